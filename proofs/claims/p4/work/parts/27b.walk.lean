noncomputable def v_Mo_feedBlockV_zI (zM : Nat → Nat × Nat) (zI : Nat → Nat → Int32) (zL : Nat → Nat → Int64) (j : Nat) (kc : Nat) (bk : Int32) (k : Nat) : Nat → Nat → Int32 := (if (nI (zM j).2) = 0 then (if bk = 0 then v_Mo_putEightV_zI zI k (v_Mo_onJV zI kc (v_Mo_eightV zI k)) else v_Mo_putEightV_zI zI k (v_Mo_offJV zI kc (v_Mo_eightV zI k))) else (if bk = 0 then v_Mo_putEightV_zI zI k ((az_vl zL 8 j (v_Mo_onJV zI kc ((v_Mo_eightV zI k) ^^^ (zL 8 j)))) 8 j) else v_Mo_putEightV_zI zI k ((v_Mo_offJV zI kc (v_Mo_eightV zI k)) ^^^ (zL 8 j))))
noncomputable def v_Mo_feedBlockV_zL (zM : Nat → Nat × Nat) (zI : Nat → Nat → Int32) (zL : Nat → Nat → Int64) (j : Nat) (kc : Nat) (bk : Int32) (k : Nat) : Nat → Nat → Int64 := (if (nI (zM j).2) = 0 then (if bk = 0 then zL else zL) else (if bk = 0 then az_vl zL 8 j (v_Mo_onJV zI kc ((v_Mo_eightV zI k) ^^^ (zL 8 j))) else az_vl zL 8 j (v_Mo_eightV zI k)))
abbrev ws_Mo_feedBlockV : List Cond := Cond.code y_Mo_feedBlock b_Mo_feedBlock 6 none :: aw_G
abbrev rm_Mo_feedBlockV : Room := { frames := 4, cells := 0, slots := 0, locals := 105 }
set_option maxHeartbeats 4000000 in
set_option maxRecDepth 100000 in
theorem k_Mo_feedBlockV (l : Launch) (D : va_G) (g : Nat → ClassId) (ad : Nat → Nat) (N0 : Nat) (zG : Nat → Nat × Nat) (zO : Nat → Nat) (zX : Nat → Nat → Int64) (zY : Nat → Nat → Int32) (zA : Nat → Nat → Nat → Int32) (zB : Nat → Int32) (zM : Nat → Nat × Nat) (zI : Nat → Nat → Int32) (zL : Nat → Nat → Int64) (zN : Nat) (zF : Int32) (zQ : Int64) (j : Nat) (kc : Nat) (bk : Int32) (k : Nat) (hj : j < 4) (hk : k ≤ 56) (hkc : kc < 5) : Met l y_Mo_feedBlock ws_Mo_feedBlockV rm_Mo_feedBlockV (va_Pc ([.ref (aw_m ad 0), .int (nI j), .int bk, .int (nI k)] : List Value) (ag_B D g N0 (az_Sh g ad zG zO zX zY zA zB zM zI zL (nI kc) zN zF zQ))) (va_Qv (fun (_ : Unit) => True) (fun (_ : Unit) t => ag_H D N0 (az_Sh g ad zG zO zX zY zA zB zM (v_Mo_feedBlockV_zI zM zI zL j kc bk k) (v_Mo_feedBlockV_zL zM zI zL j kc bk k) (nI kc) zN zF zQ) t.heap) (aw_Z N0)) 0 0 (aw_Z N0) := by
  refine Met.ofW (cc := b_Mo_feedBlock) (maxL := 6) (ret := none) (by decide) rfl ?_
  intro p e s m args below meth c s₁ B hml hv
  obtain ⟨rfl, ⟨L, hP, hD, hSh⟩, hU⟩ := hv
  have hx := B.exec
  have hb := B.bytes
  have hr := B.returns
  have hG : ∀ w ∈ aw_G, w.before _ s = true := fun w h => atoms_spec (ws := ws_Mo_feedBlockV) B.pre w (List.mem_cons_of_mem _ h)
  have hown : s.vm.findClass "RuleCiphersModel" = some m.cls := findClass_of_methodNamed B.named
  have hlocks := B.notSynchronized
  have hE := hU.1
  have hK := hE.1
  have hN := hE.2.1
  have hS : va_S (aw_Z N0) s.heap s.heap [] := va_S.rf
  have hl := lv_entry ([.ref (aw_m ad 0), .int (nI j), .int bk, .int (nI k)] : List Value) (n := 6) (Nat.le_of_ble_eq_true rfl)
  rw [lg_entry_eq]
  generalize (lg_sl ([.ref (aw_m ad 0), .int (nI j), .int bk, .int (nI k)] : List Value) ++ List.replicate (6 - (lg_sl ([.ref (aw_m ad 0), .int (nI j), .int bk, .int (nI k)] : List Value)).length) Slot.unset).toArray = ls at hl ⊢
  have hl : lv_has ls 6 [(0, .ref (aw_m ad 0)), (1, .int (nI j)), (2, .int bk), (3, .int (nI k))] := hl
  refine lv_aload_n hx hb d_Mo_feedBlock_0 rfl (lv_at hl 0 rfl) ?_
  refine lv_iload_n hx hb d_Mo_feedBlock_1 rfl (lv_at hl 3 rfl) ?_
  obtain ⟨_, he1⟩ := zr_M0 hSh
  refine va_calll (va_runV (As := [.int (nI k)]) (rest := []) ⟨hx, hb, hml, hown, hG⟩ (k_Mo_eightV l D g ad N0 zG zO zX zY zA zB zM zI zL (nI kc) zN zF zQ k hk) (aw_wV 1 hG gw_12_38 gw_12_36 gw_0_10 gw_12_37 gw_p_22 rfl rfl hd_Mo_eight ⟨Nat.le_of_ble_eq_true rfl, Nat.le_of_ble_eq_true rfl⟩) (ag_qV (va_recv hK hP rfl he1) hP hD hSh hU hS) rfl rfl hl.1 rfl (lv_room (Nat.le_of_ble_eq_true rfl)) d_Mo_feedBlock_2 ⟨Nat.le_of_ble_eq_true rfl, Nat.le_of_ble_eq_true rfl⟩) hS (fun _ _ h => h) (fun _ h => h) ?_
  clear hP hD hSh hS he1
  intro y2 u8 t8 H locs ht _ ey2 hB _ _ hS
  obtain ⟨L, hP, hD, hSh⟩ := hB
  rw [ht] at hP
  clear ht
  have ey2 := ey2.symm
  refine lv_lstore hx hb d_Mo_feedBlock_5 hl (by decide) rfl (fun ls hl => ?_)
  have hl : lv_has ls 6 [(4, .long y2), (0, .ref (aw_m ad 0)), (1, .int (nI j)), (2, .int bk), (3, .int (nI k))] := hl
  refine lv_aload_n hx hb d_Mo_feedBlock_7 rfl (lv_at hl 1 rfl) ?_
  obtain ⟨hsd4, he3⟩ := zr_M0 hSh
  refine va_get (C := R_Mo) (T := T_Mo) (N := 19) (v := .ref (aw_m ad 6)) hx hb hG in_Mo hown hK hP 67 he3 rfl 6 (by decide) (hG _ gw_9_31) (fun _ h => h) rfl d_Mo_feedBlock_8 ?_
  clear he3
  refine lv_iload_n hx hb d_Mo_feedBlock_11 rfl (lv_at hl 2 rfl) ?_
  obtain ⟨hsd6, he5⟩ := zr_M6 hSh
  refine aw_ild hx hb hK hP 73 0 he5 rfl (k := j) (by omega) (by decide) d_Mo_feedBlock_12 ?_
  clear he5
  refine aw_ti (y := nI (zM j).2) (hsd6 _ (by omega)) ?_
  have hm := hSh.2.2.2.2.2 j (by omega)
  refine lv_if_ne (tgt := 43) hx hb d_Mo_feedBlock_13 (by decide) (fun hb7 => ?_) (fun hb7 => ?_)
  · have nhb7 : ¬ (zM j).2 = 0 := fun z => absurd ((nI_eq (by omega) (by omega)).mpr z) (show ¬ nI ((zM j).2) = nI 0 from hb7)
    refine lv_iload_n hx hb d_Mo_feedBlock_43 rfl (lv_at hl 3 rfl) ?_
    refine lv_if_eq (tgt := 76) hx hb d_Mo_feedBlock_44 (by decide) (fun hb8 => ?_) (fun hb8 => ?_)
    · refine lv_aload_n hx hb d_Mo_feedBlock_76 rfl (lv_at hl 1 rfl) ?_
      obtain ⟨hsd10, he9⟩ := zr_M0 hSh
      refine va_get (C := R_Mo) (T := T_Mo) (N := 19) (v := .ref (aw_m ad 8)) hx hb hG in_Mo hown hK hP 67 he9 rfl 8 (by decide) (hG _ gw_9_33) (fun _ h => h) rfl d_Mo_feedBlock_77 ?_
      clear he9
      refine lv_iload_n hx hb d_Mo_feedBlock_80 rfl (lv_at hl 2 rfl) ?_
      refine lv_aload_n hx hb d_Mo_feedBlock_81 rfl (lv_at hl 1 rfl) ?_
      refine lv_lload hx hb d_Mo_feedBlock_82 (lv_at hl 0 rfl) ?_
      refine lv_aload_n hx hb d_Mo_feedBlock_84 rfl (lv_at hl 1 rfl) ?_
      obtain ⟨hsd12, he11⟩ := zr_M0 hSh
      refine va_get (C := R_Mo) (T := T_Mo) (N := 19) (v := .ref (aw_m ad 8)) hx hb hG in_Mo hown hK hP 67 he11 rfl 8 (by decide) (hG _ gw_9_33) (fun _ h => h) rfl d_Mo_feedBlock_85 ?_
      clear he11
      refine lv_iload_n hx hb d_Mo_feedBlock_88 rfl (lv_at hl 2 rfl) ?_
      have he13 := zr_M8 hSh
      refine aw_lld hx hb hK hP 75 1 he13 rfl (k := j) (by omega) (by decide) d_Mo_feedBlock_89 ?_
      clear he13
      refine ag_topl (fun y14 ey14 => ?_)
      refine lv_lxor hx hb d_Mo_feedBlock_90 ?_
      refine ag_topl (fun y15 ey15 => ?_)
      obtain ⟨_, he16⟩ := zr_M0 hSh
      refine va_calll (va_runV (As := [.long y15]) (rest := [.int (nI j), .ref (aw_m ad 8)]) ⟨hx, hb, hml, hown, hG⟩ (k_Mo_onJV l D g ad N0 zG zO zX zY zA zB zM zI zL zN zF zQ kc y15 hkc) (aw_wV 1 hG gw_12_4 gw_12_2 gw_0_10 gw_12_3 gw_p_18 rfl rfl hd_Mo_on ⟨Nat.le_of_ble_eq_true rfl, Nat.le_of_ble_eq_true rfl⟩) (ag_qV (va_recv hK hP rfl he16) hP hD hSh hU hS) rfl rfl hl.1 rfl (lv_room (Nat.le_of_ble_eq_true rfl)) d_Mo_feedBlock_91 ⟨Nat.le_of_ble_eq_true rfl, Nat.le_of_ble_eq_true rfl⟩) hS (fun _ _ h => h) (fun _ h => h) ?_
      clear hP hD hSh hS he16
      intro y17 u8 t8 H locs ht _ ey17 hB _ _ hS
      obtain ⟨L, hP, hD, hSh⟩ := hB
      rw [ht] at hP
      clear ht
      have ey17 := ey17.symm
      have he18 := zr_M8 hSh
      refine ag_lst hx hb hK hP hD hS 75 1 he18 rfl (k := j) (by omega) (by decide) d_Mo_feedBlock_94 (zw_L8w hSh j y17) ?_
      clear hP hD hSh hS he18
      intro H locs L hP hD hSh hS
      obtain ⟨zL19, ezL19⟩ : ∃ z : Nat → Nat → Int64, az_vl zL 8 j y17 = z := ⟨_, rfl⟩
      rw [ezL19] at hSh
      refine lv_aload_n hx hb d_Mo_feedBlock_95 rfl (lv_at hl 1 rfl) ?_
      refine lv_iload_n hx hb d_Mo_feedBlock_96 rfl (lv_at hl 4 rfl) ?_
      refine lv_aload_n hx hb d_Mo_feedBlock_97 rfl (lv_at hl 1 rfl) ?_
      obtain ⟨hsd21, he20⟩ := zr_M0 hSh
      refine va_get (C := R_Mo) (T := T_Mo) (N := 19) (v := .ref (aw_m ad 8)) hx hb hG in_Mo hown hK hP 67 he20 rfl 8 (by decide) (hG _ gw_9_33) (fun _ h => h) rfl d_Mo_feedBlock_98 ?_
      clear he20
      refine lv_iload_n hx hb d_Mo_feedBlock_101 rfl (lv_at hl 2 rfl) ?_
      have he22 := zr_M8 hSh
      refine aw_lld hx hb hK hP 75 1 he22 rfl (k := j) (by omega) (by decide) d_Mo_feedBlock_102 ?_
      clear he22
      refine ag_topl (fun y23 ey23 => ?_)
      obtain ⟨_, he24⟩ := zr_M0 hSh
      refine va_callv (va_runV (As := [.int (nI k), .long y23]) (rest := []) ⟨hx, hb, hml, hown, hG⟩ (k_Mo_putEightV l D g ad N0 zG zO zX zY zA zB zM zI zL19 (nI kc) zN zF zQ k y23 hk) (aw_wV 2 hG gw_12_41 gw_12_39 gw_0_10 gw_12_40 gw_p_23 rfl rfl hd_Mo_putEight ⟨Nat.le_of_ble_eq_true rfl, Nat.le_of_ble_eq_true rfl⟩) (ag_qV (va_recv hK hP rfl he24) hP hD hSh hU hS) rfl rfl hl.1 rfl (lv_room (Nat.le_of_ble_eq_true rfl)) d_Mo_feedBlock_103 ⟨Nat.le_of_ble_eq_true rfl, Nat.le_of_ble_eq_true rfl⟩) hS (fun _ _ h => h) (fun _ h => h) ?_
      clear hP hD hSh hS he24
      intro u8 t8 H locs ht _ _ hB _ _ hS
      obtain ⟨L, hP, hD, hSh⟩ := hB
      rw [ht] at hP
      clear ht
      obtain ⟨zI25, ezI25⟩ : ∃ z : Nat → Nat → Int32, v_Mo_putEightV_zI zI k y23 = z := ⟨_, rfl⟩
      rw [ezI25] at hSh
      have gzI : zI25 = v_Mo_feedBlockV_zI zM zI zL j kc bk k := by subst ezI25 ey23 ezL19 ey17 ey15 ey14 ey2; unfold v_Mo_feedBlockV_zI; rw [if_neg hb7, if_pos hb8]
      have gzL : zL19 = v_Mo_feedBlockV_zL zM zI zL j kc bk k := by subst ezI25 ey23 ezL19 ey17 ey15 ey14 ey2; unfold v_Mo_feedBlockV_zL; rw [if_neg hb7, if_pos hb8]
      have hSh : az_Sh g ad zG zO zX zY zA zB zM (v_Mo_feedBlockV_zI zM zI zL j kc bk k) (v_Mo_feedBlockV_zL zM zI zL j kc bk k) (nI kc) zN zF zQ L := by rw [← gzI, ← gzL]; exact hSh
      exact W.vret hx hb hr (fun t ht hW => ⟨⟨(), rfl, trivial, ag_Hr ht hP hD hSh⟩, hS.F ht⟩) hS.2.2 d_Mo_feedBlock_106
    · refine lv_aload_n hx hb d_Mo_feedBlock_47 rfl (lv_at hl 1 rfl) ?_
      refine lv_iload_n hx hb d_Mo_feedBlock_48 rfl (lv_at hl 4 rfl) ?_
      refine lv_aload_n hx hb d_Mo_feedBlock_49 rfl (lv_at hl 1 rfl) ?_
      refine lv_lload hx hb d_Mo_feedBlock_50 (lv_at hl 0 rfl) ?_
      obtain ⟨_, he26⟩ := zr_M0 hSh
      refine va_calll (va_runV (As := [.long y2]) (rest := [.int (nI k), .ref (aw_m ad 0)]) ⟨hx, hb, hml, hown, hG⟩ (k_Mo_offJV l D g ad N0 zG zO zX zY zA zB zM zI zL zN zF zQ kc y2 hkc) (aw_wV 1 hG gw_11_39 gw_11_37 gw_0_10 gw_11_38 gw_p_16 rfl rfl hd_Mo_off ⟨Nat.le_of_ble_eq_true rfl, Nat.le_of_ble_eq_true rfl⟩) (ag_qV (va_recv hK hP rfl he26) hP hD hSh hU hS) rfl rfl hl.1 rfl (lv_room (Nat.le_of_ble_eq_true rfl)) d_Mo_feedBlock_52 ⟨Nat.le_of_ble_eq_true rfl, Nat.le_of_ble_eq_true rfl⟩) hS (fun _ _ h => h) (fun _ h => h) ?_
      clear hP hD hSh hS he26
      intro y27 u8 t8 H locs ht _ ey27 hB _ _ hS
      obtain ⟨L, hP, hD, hSh⟩ := hB
      rw [ht] at hP
      clear ht
      have ey27 := ey27.symm
      refine lv_aload_n hx hb d_Mo_feedBlock_55 rfl (lv_at hl 1 rfl) ?_
      obtain ⟨hsd29, he28⟩ := zr_M0 hSh
      refine va_get (C := R_Mo) (T := T_Mo) (N := 19) (v := .ref (aw_m ad 8)) hx hb hG in_Mo hown hK hP 67 he28 rfl 8 (by decide) (hG _ gw_9_33) (fun _ h => h) rfl d_Mo_feedBlock_56 ?_
      clear he28
      refine lv_iload_n hx hb d_Mo_feedBlock_59 rfl (lv_at hl 2 rfl) ?_
      have he30 := zr_M8 hSh
      refine aw_lld hx hb hK hP 75 1 he30 rfl (k := j) (by omega) (by decide) d_Mo_feedBlock_60 ?_
      clear he30
      refine ag_topl (fun y31 ey31 => ?_)
      refine lv_lxor hx hb d_Mo_feedBlock_61 ?_
      refine ag_topl (fun y32 ey32 => ?_)
      obtain ⟨_, he33⟩ := zr_M0 hSh
      refine va_callv (va_runV (As := [.int (nI k), .long y32]) (rest := []) ⟨hx, hb, hml, hown, hG⟩ (k_Mo_putEightV l D g ad N0 zG zO zX zY zA zB zM zI zL (nI kc) zN zF zQ k y32 hk) (aw_wV 2 hG gw_12_41 gw_12_39 gw_0_10 gw_12_40 gw_p_23 rfl rfl hd_Mo_putEight ⟨Nat.le_of_ble_eq_true rfl, Nat.le_of_ble_eq_true rfl⟩) (ag_qV (va_recv hK hP rfl he33) hP hD hSh hU hS) rfl rfl hl.1 rfl (lv_room (Nat.le_of_ble_eq_true rfl)) d_Mo_feedBlock_62 ⟨Nat.le_of_ble_eq_true rfl, Nat.le_of_ble_eq_true rfl⟩) hS (fun _ _ h => h) (fun _ h => h) ?_
      clear hP hD hSh hS he33
      intro u8 t8 H locs ht _ _ hB _ _ hS
      obtain ⟨L, hP, hD, hSh⟩ := hB
      rw [ht] at hP
      clear ht
      obtain ⟨zI34, ezI34⟩ : ∃ z : Nat → Nat → Int32, v_Mo_putEightV_zI zI k y32 = z := ⟨_, rfl⟩
      rw [ezI34] at hSh
      refine lv_aload_n hx hb d_Mo_feedBlock_65 rfl (lv_at hl 1 rfl) ?_
      obtain ⟨hsd36, he35⟩ := zr_M0 hSh
      refine va_get (C := R_Mo) (T := T_Mo) (N := 19) (v := .ref (aw_m ad 8)) hx hb hG in_Mo hown hK hP 67 he35 rfl 8 (by decide) (hG _ gw_9_33) (fun _ h => h) rfl d_Mo_feedBlock_66 ?_
      clear he35
      refine lv_iload_n hx hb d_Mo_feedBlock_69 rfl (lv_at hl 2 rfl) ?_
      refine lv_lload hx hb d_Mo_feedBlock_70 (lv_at hl 0 rfl) ?_
      have he37 := zr_M8 hSh
      refine ag_lst hx hb hK hP hD hS 75 1 he37 rfl (k := j) (by omega) (by decide) d_Mo_feedBlock_72 (zw_L8w hSh j y2) ?_
      clear hP hD hSh hS he37
      intro H locs L hP hD hSh hS
      obtain ⟨zL38, ezL38⟩ : ∃ z : Nat → Nat → Int64, az_vl zL 8 j y2 = z := ⟨_, rfl⟩
      rw [ezL38] at hSh
      refine lv_goto (tgt := 106) hx hb d_Mo_feedBlock_73 (by decide) ?_
      have gzI : zI34 = v_Mo_feedBlockV_zI zM zI zL j kc bk k := by subst ezL38 ezI34 ey32 ey31 ey27 ey2; unfold v_Mo_feedBlockV_zI; rw [if_neg hb7, if_neg hb8]
      have gzL : zL38 = v_Mo_feedBlockV_zL zM zI zL j kc bk k := by subst ezL38 ezI34 ey32 ey31 ey27 ey2; unfold v_Mo_feedBlockV_zL; rw [if_neg hb7, if_neg hb8]
      have hSh : az_Sh g ad zG zO zX zY zA zB zM (v_Mo_feedBlockV_zI zM zI zL j kc bk k) (v_Mo_feedBlockV_zL zM zI zL j kc bk k) (nI kc) zN zF zQ L := by rw [← gzI, ← gzL]; exact hSh
      exact W.vret hx hb hr (fun t ht hW => ⟨⟨(), rfl, trivial, ag_Hr ht hP hD hSh⟩, hS.F ht⟩) hS.2.2 d_Mo_feedBlock_106
  · have nhb7 : (zM j).2 = 0 := (nI_eq (by omega) (by omega)).mp (show nI ((zM j).2) = nI 0 from hb7)
    refine lv_aload_n hx hb d_Mo_feedBlock_16 rfl (lv_at hl 1 rfl) ?_
    refine lv_iload_n hx hb d_Mo_feedBlock_17 rfl (lv_at hl 4 rfl) ?_
    refine lv_iload_n hx hb d_Mo_feedBlock_18 rfl (lv_at hl 3 rfl) ?_
    refine lv_if_eq (tgt := 31) hx hb d_Mo_feedBlock_19 (by decide) (fun hb39 => ?_) (fun hb39 => ?_)
    · refine lv_aload_n hx hb d_Mo_feedBlock_31 rfl (lv_at hl 1 rfl) ?_
      refine lv_lload hx hb d_Mo_feedBlock_32 (lv_at hl 0 rfl) ?_
      obtain ⟨_, he40⟩ := zr_M0 hSh
      refine va_calll (va_runV (As := [.long y2]) (rest := [.int (nI k), .ref (aw_m ad 0)]) ⟨hx, hb, hml, hown, hG⟩ (k_Mo_onJV l D g ad N0 zG zO zX zY zA zB zM zI zL zN zF zQ kc y2 hkc) (aw_wV 1 hG gw_12_4 gw_12_2 gw_0_10 gw_12_3 gw_p_18 rfl rfl hd_Mo_on ⟨Nat.le_of_ble_eq_true rfl, Nat.le_of_ble_eq_true rfl⟩) (ag_qV (va_recv hK hP rfl he40) hP hD hSh hU hS) rfl rfl hl.1 rfl (lv_room (Nat.le_of_ble_eq_true rfl)) d_Mo_feedBlock_34 ⟨Nat.le_of_ble_eq_true rfl, Nat.le_of_ble_eq_true rfl⟩) hS (fun _ _ h => h) (fun _ h => h) ?_
      clear hP hD hSh hS he40
      intro y41 u8 t8 H locs ht _ ey41 hB _ _ hS
      obtain ⟨L, hP, hD, hSh⟩ := hB
      rw [ht] at hP
      clear ht
      have ey41 := ey41.symm
      obtain ⟨_, he42⟩ := zr_M0 hSh
      refine va_callv (va_runV (As := [.int (nI k), .long y41]) (rest := []) ⟨hx, hb, hml, hown, hG⟩ (k_Mo_putEightV l D g ad N0 zG zO zX zY zA zB zM zI zL (nI kc) zN zF zQ k y41 hk) (aw_wV 2 hG gw_12_41 gw_12_39 gw_0_10 gw_12_40 gw_p_23 rfl rfl hd_Mo_putEight ⟨Nat.le_of_ble_eq_true rfl, Nat.le_of_ble_eq_true rfl⟩) (ag_qV (va_recv hK hP rfl he42) hP hD hSh hU hS) rfl rfl hl.1 rfl (lv_room (Nat.le_of_ble_eq_true rfl)) d_Mo_feedBlock_37 ⟨Nat.le_of_ble_eq_true rfl, Nat.le_of_ble_eq_true rfl⟩) hS (fun _ _ h => h) (fun _ h => h) ?_
      clear hP hD hSh hS he42
      intro u8 t8 H locs ht _ _ hB _ _ hS
      obtain ⟨L, hP, hD, hSh⟩ := hB
      rw [ht] at hP
      clear ht
      obtain ⟨zI43, ezI43⟩ : ∃ z : Nat → Nat → Int32, v_Mo_putEightV_zI zI k y41 = z := ⟨_, rfl⟩
      rw [ezI43] at hSh
      refine lv_goto (tgt := 106) hx hb d_Mo_feedBlock_40 (by decide) ?_
      have gzI : zI43 = v_Mo_feedBlockV_zI zM zI zL j kc bk k := by subst ezI43 ey41 ey2; unfold v_Mo_feedBlockV_zI; rw [if_pos hb7, if_pos hb39]
      have gzL : zL = v_Mo_feedBlockV_zL zM zI zL j kc bk k := by subst ezI43 ey41 ey2; unfold v_Mo_feedBlockV_zL; rw [if_pos hb7, if_pos hb39]
      have hSh : az_Sh g ad zG zO zX zY zA zB zM (v_Mo_feedBlockV_zI zM zI zL j kc bk k) (v_Mo_feedBlockV_zL zM zI zL j kc bk k) (nI kc) zN zF zQ L := by rw [← gzI, ← gzL]; exact hSh
      exact W.vret hx hb hr (fun t ht hW => ⟨⟨(), rfl, trivial, ag_Hr ht hP hD hSh⟩, hS.F ht⟩) hS.2.2 d_Mo_feedBlock_106
    · refine lv_aload_n hx hb d_Mo_feedBlock_22 rfl (lv_at hl 1 rfl) ?_
      refine lv_lload hx hb d_Mo_feedBlock_23 (lv_at hl 0 rfl) ?_
      obtain ⟨_, he44⟩ := zr_M0 hSh
      refine va_calll (va_runV (As := [.long y2]) (rest := [.int (nI k), .ref (aw_m ad 0)]) ⟨hx, hb, hml, hown, hG⟩ (k_Mo_offJV l D g ad N0 zG zO zX zY zA zB zM zI zL zN zF zQ kc y2 hkc) (aw_wV 1 hG gw_11_39 gw_11_37 gw_0_10 gw_11_38 gw_p_16 rfl rfl hd_Mo_off ⟨Nat.le_of_ble_eq_true rfl, Nat.le_of_ble_eq_true rfl⟩) (ag_qV (va_recv hK hP rfl he44) hP hD hSh hU hS) rfl rfl hl.1 rfl (lv_room (Nat.le_of_ble_eq_true rfl)) d_Mo_feedBlock_25 ⟨Nat.le_of_ble_eq_true rfl, Nat.le_of_ble_eq_true rfl⟩) hS (fun _ _ h => h) (fun _ h => h) ?_
      clear hP hD hSh hS he44
      intro y45 u8 t8 H locs ht _ ey45 hB _ _ hS
      obtain ⟨L, hP, hD, hSh⟩ := hB
      rw [ht] at hP
      clear ht
      have ey45 := ey45.symm
      refine lv_goto (tgt := 37) hx hb d_Mo_feedBlock_28 (by decide) ?_
      obtain ⟨_, he46⟩ := zr_M0 hSh
      refine va_callv (va_runV (As := [.int (nI k), .long y45]) (rest := []) ⟨hx, hb, hml, hown, hG⟩ (k_Mo_putEightV l D g ad N0 zG zO zX zY zA zB zM zI zL (nI kc) zN zF zQ k y45 hk) (aw_wV 2 hG gw_12_41 gw_12_39 gw_0_10 gw_12_40 gw_p_23 rfl rfl hd_Mo_putEight ⟨Nat.le_of_ble_eq_true rfl, Nat.le_of_ble_eq_true rfl⟩) (ag_qV (va_recv hK hP rfl he46) hP hD hSh hU hS) rfl rfl hl.1 rfl (lv_room (Nat.le_of_ble_eq_true rfl)) d_Mo_feedBlock_37 ⟨Nat.le_of_ble_eq_true rfl, Nat.le_of_ble_eq_true rfl⟩) hS (fun _ _ h => h) (fun _ h => h) ?_
      clear hP hD hSh hS he46
      intro u8 t8 H locs ht _ _ hB _ _ hS
      obtain ⟨L, hP, hD, hSh⟩ := hB
      rw [ht] at hP
      clear ht
      obtain ⟨zI47, ezI47⟩ : ∃ z : Nat → Nat → Int32, v_Mo_putEightV_zI zI k y45 = z := ⟨_, rfl⟩
      rw [ezI47] at hSh
      refine lv_goto (tgt := 106) hx hb d_Mo_feedBlock_40 (by decide) ?_
      have gzI : zI47 = v_Mo_feedBlockV_zI zM zI zL j kc bk k := by subst ezI47 ey45 ey2; unfold v_Mo_feedBlockV_zI; rw [if_pos hb7, if_neg hb39]
      have gzL : zL = v_Mo_feedBlockV_zL zM zI zL j kc bk k := by subst ezI47 ey45 ey2; unfold v_Mo_feedBlockV_zL; rw [if_pos hb7, if_neg hb39]
      have hSh : az_Sh g ad zG zO zX zY zA zB zM (v_Mo_feedBlockV_zI zM zI zL j kc bk k) (v_Mo_feedBlockV_zL zM zI zL j kc bk k) (nI kc) zN zF zQ L := by rw [← gzI, ← gzL]; exact hSh
      exact W.vret hx hb hr (fun t ht hW => ⟨⟨(), rfl, trivial, ag_Hr ht hP hD hSh⟩, hS.F ht⟩) hS.2.2 d_Mo_feedBlock_106
noncomputable def v_Mo_feedByteV_zI (zM : Nat → Nat × Nat) (zI : Nat → Nat → Int32) (zL : Nat → Nat → Int64) (j : Nat) (kc : Nat) (bk : Int32) (k : Nat) : Nat → Nat → Int32 := (if (nI (zM j).2) = (nI 2) then (if bk = 0 then az_v zI 1 k ((zI 1 k) ^^^ (Int64.toInt32 (jL_ushr (v_Mo_onJV zI kc (zL 8 j)) (nI 56)))) else az_v zI 1 k ((zI 1 k) ^^^ (Int64.toInt32 (jL_ushr (v_Mo_onJV zI kc (zL 8 j)) (nI 56))))) else (if (nI (zM j).2) = (nI 3) then (if (zI 9 j) = 0 then az_v (az_v zI 1 k ((zI 1 k) ^^^ ((Int64.toInt32 (jL_ushr ((az_vl zL 8 j (v_Mo_onJV zI kc (zL 8 j))) 8 j) ((nI 56) - ((nI 8) * (zI 9 j))))) &&& (nI 255)))) 9 j ((((az_v zI 1 k ((zI 1 k) ^^^ ((Int64.toInt32 (jL_ushr ((az_vl zL 8 j (v_Mo_onJV zI kc (zL 8 j))) 8 j) ((nI 56) - ((nI 8) * (zI 9 j))))) &&& (nI 255)))) 9 j) + (nI 1)) - (((az_v zI 1 k ((zI 1 k) ^^^ ((Int64.toInt32 (jL_ushr ((az_vl zL 8 j (v_Mo_onJV zI kc (zL 8 j))) 8 j) ((nI 56) - ((nI 8) * (zI 9 j))))) &&& (nI 255)))) 9 j) + (nI 1)) / (nI 8) * (nI 8)) else az_v (az_v zI 1 k ((zI 1 k) ^^^ ((Int64.toInt32 (jL_ushr (zL 8 j) ((nI 56) - ((nI 8) * (zI 9 j))))) &&& (nI 255)))) 9 j ((((az_v zI 1 k ((zI 1 k) ^^^ ((Int64.toInt32 (jL_ushr (zL 8 j) ((nI 56) - ((nI 8) * (zI 9 j))))) &&& (nI 255)))) 9 j) + (nI 1)) - (((az_v zI 1 k ((zI 1 k) ^^^ ((Int64.toInt32 (jL_ushr (zL 8 j) ((nI 56) - ((nI 8) * (zI 9 j))))) &&& (nI 255)))) 9 j) + (nI 1)) / (nI 8) * (nI 8))) else (if (nI (zM j).2) = (nI 4) then (if ((az_v (az_v zI 1 k ((zI 1 k) ^^^ ((Int64.toInt32 (jL_ushr (v_Mo_onJV zI kc (zL 8 j)) ((nI 56) - ((nI 8) * (zI 9 j))))) &&& (nI 255)))) 9 j ((((az_v zI 1 k ((zI 1 k) ^^^ ((Int64.toInt32 (jL_ushr (v_Mo_onJV zI kc (zL 8 j)) ((nI 56) - ((nI 8) * (zI 9 j))))) &&& (nI 255)))) 9 j) + (nI 1)) - (((az_v zI 1 k ((zI 1 k) ^^^ ((Int64.toInt32 (jL_ushr (v_Mo_onJV zI kc (zL 8 j)) ((nI 56) - ((nI 8) * (zI 9 j))))) &&& (nI 255)))) 9 j) + (nI 1)) / (nI 8) * (nI 8))) 9 j) = 0 then az_v (az_v zI 1 k ((zI 1 k) ^^^ ((Int64.toInt32 (jL_ushr (v_Mo_onJV zI kc (zL 8 j)) ((nI 56) - ((nI 8) * (zI 9 j))))) &&& (nI 255)))) 9 j ((((az_v zI 1 k ((zI 1 k) ^^^ ((Int64.toInt32 (jL_ushr (v_Mo_onJV zI kc (zL 8 j)) ((nI 56) - ((nI 8) * (zI 9 j))))) &&& (nI 255)))) 9 j) + (nI 1)) - (((az_v zI 1 k ((zI 1 k) ^^^ ((Int64.toInt32 (jL_ushr (v_Mo_onJV zI kc (zL 8 j)) ((nI 56) - ((nI 8) * (zI 9 j))))) &&& (nI 255)))) 9 j) + (nI 1)) / (nI 8) * (nI 8)) else az_v (az_v zI 1 k ((zI 1 k) ^^^ ((Int64.toInt32 (jL_ushr (v_Mo_onJV zI kc (zL 8 j)) ((nI 56) - ((nI 8) * (zI 9 j))))) &&& (nI 255)))) 9 j ((((az_v zI 1 k ((zI 1 k) ^^^ ((Int64.toInt32 (jL_ushr (v_Mo_onJV zI kc (zL 8 j)) ((nI 56) - ((nI 8) * (zI 9 j))))) &&& (nI 255)))) 9 j) + (nI 1)) - (((az_v zI 1 k ((zI 1 k) ^^^ ((Int64.toInt32 (jL_ushr (v_Mo_onJV zI kc (zL 8 j)) ((nI 56) - ((nI 8) * (zI 9 j))))) &&& (nI 255)))) 9 j) + (nI 1)) / (nI 8) * (nI 8))) else az_v (az_v zI 1 k ((zI 1 k) ^^^ ((Int64.toInt32 (jL_ushr (v_Mo_onJV zI kc (zL 8 j)) ((nI 56) - ((nI 8) * (zI 9 j))))) &&& (nI 255)))) 9 j ((((az_v zI 1 k ((zI 1 k) ^^^ ((Int64.toInt32 (jL_ushr (v_Mo_onJV zI kc (zL 8 j)) ((nI 56) - ((nI 8) * (zI 9 j))))) &&& (nI 255)))) 9 j) + (nI 1)) - (((az_v zI 1 k ((zI 1 k) ^^^ ((Int64.toInt32 (jL_ushr (v_Mo_onJV zI kc (zL 8 j)) ((nI 56) - ((nI 8) * (zI 9 j))))) &&& (nI 255)))) 9 j) + (nI 1)) / (nI 8) * (nI 8)))))
noncomputable def v_Mo_feedByteV_zL (zM : Nat → Nat × Nat) (zI : Nat → Nat → Int32) (zL : Nat → Nat → Int64) (j : Nat) (kc : Nat) (bk : Int32) (k : Nat) : Nat → Nat → Int64 := (if (nI (zM j).2) = (nI 2) then (if bk = 0 then az_vl zL 8 j ((jL_shl (zL 8 j) (nI 8)) ||| (Int32.toInt64 ((zI 1 k) ^^^ (Int64.toInt32 (jL_ushr (v_Mo_onJV zI kc (zL 8 j)) (nI 56)))))) else az_vl zL 8 j ((jL_shl (zL 8 j) (nI 8)) ||| (Int32.toInt64 (zI 1 k)))) else (if (nI (zM j).2) = (nI 3) then (if (zI 9 j) = 0 then az_vl (az_vl zL 8 j (v_Mo_onJV zI kc (zL 8 j))) 8 j ((az_vl zL 8 j (v_Mo_onJV zI kc (zL 8 j))) 8 j) else az_vl zL 8 j (zL 8 j)) else (if (nI (zM j).2) = (nI 4) then (if ((az_v (az_v zI 1 k ((zI 1 k) ^^^ ((Int64.toInt32 (jL_ushr (v_Mo_onJV zI kc (zL 8 j)) ((nI 56) - ((nI 8) * (zI 9 j))))) &&& (nI 255)))) 9 j ((((az_v zI 1 k ((zI 1 k) ^^^ ((Int64.toInt32 (jL_ushr (v_Mo_onJV zI kc (zL 8 j)) ((nI 56) - ((nI 8) * (zI 9 j))))) &&& (nI 255)))) 9 j) + (nI 1)) - (((az_v zI 1 k ((zI 1 k) ^^^ ((Int64.toInt32 (jL_ushr (v_Mo_onJV zI kc (zL 8 j)) ((nI 56) - ((nI 8) * (zI 9 j))))) &&& (nI 255)))) 9 j) + (nI 1)) / (nI 8) * (nI 8))) 9 j) = 0 then az_vl zL 8 j ((zL 8 j) + 1) else az_vl zL 8 j (zL 8 j)) else az_vl zL 8 j (zL 8 j))))
abbrev ws_Mo_feedByteV : List Cond := Cond.code y_Mo_feedByte b_Mo_feedByte 7 none :: aw_G
abbrev rm_Mo_feedByteV : Room := { frames := 3, cells := 0, slots := 0, locals := 83 }
set_option maxHeartbeats 4000000 in
set_option maxRecDepth 100000 in
theorem k_Mo_feedByteV (l : Launch) (D : va_G) (g : Nat → ClassId) (ad : Nat → Nat) (N0 : Nat) (zG : Nat → Nat × Nat) (zO : Nat → Nat) (zX : Nat → Nat → Int64) (zY : Nat → Nat → Int32) (zA : Nat → Nat → Nat → Int32) (zB : Nat → Int32) (zM : Nat → Nat × Nat) (zI : Nat → Nat → Int32) (zL : Nat → Nat → Int64) (zN : Nat) (zF : Int32) (zQ : Int64) (j : Nat) (kc : Nat) (bk : Int32) (k : Nat) (hj : j < 4) (hk : k ≤ 63) (hkc : kc < 5) : Met l y_Mo_feedByte ws_Mo_feedByteV rm_Mo_feedByteV (va_Pc ([.ref (aw_m ad 0), .int (nI j), .int bk, .int (nI k)] : List Value) (ag_B D g N0 (az_Sh g ad zG zO zX zY zA zB zM zI zL (nI kc) zN zF zQ))) (va_Qv (fun (_ : Unit) => True) (fun (_ : Unit) t => ag_H D N0 (az_Sh g ad zG zO zX zY zA zB zM (v_Mo_feedByteV_zI zM zI zL j kc bk k) (v_Mo_feedByteV_zL zM zI zL j kc bk k) (nI kc) zN zF zQ) t.heap) (aw_Z N0)) 0 0 (aw_Z N0) := by
  refine Met.ofW (cc := b_Mo_feedByte) (maxL := 7) (ret := none) (by decide) rfl ?_
  intro p e s m args below meth c s₁ B hml hv
  obtain ⟨rfl, ⟨L, hP, hD, hSh⟩, hU⟩ := hv
  have hx := B.exec
  have hb := B.bytes
  have hr := B.returns
  have hG : ∀ w ∈ aw_G, w.before _ s = true := fun w h => atoms_spec (ws := ws_Mo_feedByteV) B.pre w (List.mem_cons_of_mem _ h)
  have hown : s.vm.findClass "RuleCiphersModel" = some m.cls := findClass_of_methodNamed B.named
  have hlocks := B.notSynchronized
  have hE := hU.1
  have hK := hE.1
  have hN := hE.2.1
  have hS : va_S (aw_Z N0) s.heap s.heap [] := va_S.rf
  have hl := lv_entry ([.ref (aw_m ad 0), .int (nI j), .int bk, .int (nI k)] : List Value) (n := 7) (Nat.le_of_ble_eq_true rfl)
  rw [lg_entry_eq]
  generalize (lg_sl ([.ref (aw_m ad 0), .int (nI j), .int bk, .int (nI k)] : List Value) ++ List.replicate (7 - (lg_sl ([.ref (aw_m ad 0), .int (nI j), .int bk, .int (nI k)] : List Value)).length) Slot.unset).toArray = ls at hl ⊢
  have hl : lv_has ls 7 [(0, .ref (aw_m ad 0)), (1, .int (nI j)), (2, .int bk), (3, .int (nI k))] := hl
  refine lv_aload_n hx hb d_Mo_feedByte_0 rfl (lv_at hl 0 rfl) ?_
  obtain ⟨hsd2, he1⟩ := zr_M0 hSh
  refine va_get (C := R_Mo) (T := T_Mo) (N := 19) (v := .ref (aw_m ad 1)) hx hb hG in_Mo hown hK hP 67 he1 rfl 1 (by decide) (hG _ gw_9_26) (fun _ h => h) rfl d_Mo_feedByte_1 ?_
  clear he1
  refine lv_iload_n hx hb d_Mo_feedByte_4 rfl (lv_at hl 3 rfl) ?_
  have he3 := zr_M1 hSh
  refine aw_ild hx hb hK hP 68 0 he3 rfl (k := k) (by omega) (by decide) d_Mo_feedByte_5 ?_
  clear he3
  refine ag_topi (fun x4 ex4 => ?_)
  refine lv_istore hx hb d_Mo_feedByte_6 hl (by decide) rfl (fun ls hl => ?_)
  have hl : lv_has ls 7 [(4, .int x4), (0, .ref (aw_m ad 0)), (1, .int (nI j)), (2, .int bk), (3, .int (nI k))] := hl
  refine lv_aload_n hx hb d_Mo_feedByte_8 rfl (lv_at hl 1 rfl) ?_
  obtain ⟨hsd6, he5⟩ := zr_M0 hSh
  refine va_get (C := R_Mo) (T := T_Mo) (N := 19) (v := .ref (aw_m ad 6)) hx hb hG in_Mo hown hK hP 67 he5 rfl 6 (by decide) (hG _ gw_9_31) (fun _ h => h) rfl d_Mo_feedByte_9 ?_
  clear he5
  refine lv_iload_n hx hb d_Mo_feedByte_12 rfl (lv_at hl 2 rfl) ?_
  obtain ⟨hsd8, he7⟩ := zr_M6 hSh
  refine aw_ild hx hb hK hP 73 0 he7 rfl (k := j) (by omega) (by decide) d_Mo_feedByte_13 ?_
  clear he7
  refine aw_ti (y := nI (zM j).2) (hsd8 _ (by omega)) ?_
  have hm := hSh.2.2.2.2.2 j (by omega)
  refine lv_iconst (v := nI 2) hx hb d_Mo_feedByte_14 (by decide +kernel) ?_
  refine lv_icmp_ne (tgt := 74) hx hb d_Mo_feedByte_15 (by decide) (fun hb9 => ?_) (fun hb9 => ?_)
  · have nhb9 : ¬ (zM j).2 = 2 := fun z => absurd ((nI_eq (by omega) (by omega)).mpr z) hb9
    refine lv_aload_n hx hb d_Mo_feedByte_74 rfl (lv_at hl 1 rfl) ?_
    obtain ⟨hsd11, he10⟩ := zr_M0 hSh
    refine va_get (C := R_Mo) (T := T_Mo) (N := 19) (v := .ref (aw_m ad 6)) hx hb hG in_Mo hown hK hP 67 he10 rfl 6 (by decide) (hG _ gw_9_31) (fun _ h => h) rfl d_Mo_feedByte_75 ?_
    clear he10
    refine lv_iload_n hx hb d_Mo_feedByte_78 rfl (lv_at hl 2 rfl) ?_
    obtain ⟨hsd13, he12⟩ := zr_M6 hSh
    refine aw_ild hx hb hK hP 73 0 he12 rfl (k := j) (by omega) (by decide) d_Mo_feedByte_79 ?_
    clear he12
    refine aw_ti (y := nI (zM j).2) (hsd13 _ (by omega)) ?_
    have hm := hSh.2.2.2.2.2 j (by omega)
    refine lv_iconst (v := nI 3) hx hb d_Mo_feedByte_80 (by decide +kernel) ?_
    refine lv_icmp_ne (tgt := 109) hx hb d_Mo_feedByte_81 (by decide) (fun hb14 => ?_) (fun hb14 => ?_)
    · have nhb14 : ¬ (zM j).2 = 3 := fun z => absurd ((nI_eq (by omega) (by omega)).mpr z) hb14
      refine lv_aload_n hx hb d_Mo_feedByte_109 rfl (lv_at hl 1 rfl) ?_
      obtain ⟨hsd16, he15⟩ := zr_M0 hSh
      refine va_get (C := R_Mo) (T := T_Mo) (N := 19) (v := .ref (aw_m ad 6)) hx hb hG in_Mo hown hK hP 67 he15 rfl 6 (by decide) (hG _ gw_9_31) (fun _ h => h) rfl d_Mo_feedByte_110 ?_
      clear he15
      refine lv_iload_n hx hb d_Mo_feedByte_113 rfl (lv_at hl 2 rfl) ?_
      obtain ⟨hsd18, he17⟩ := zr_M6 hSh
      refine aw_ild hx hb hK hP 73 0 he17 rfl (k := j) (by omega) (by decide) d_Mo_feedByte_114 ?_
      clear he17
      refine aw_ti (y := nI (zM j).2) (hsd18 _ (by omega)) ?_
      have hm := hSh.2.2.2.2.2 j (by omega)
      refine lv_iconst (v := nI 3) hx hb d_Mo_feedByte_115 (by decide +kernel) ?_
      refine lv_icmp_ne (tgt := 128) hx hb d_Mo_feedByte_116 (by decide) (fun _ => ?_) (fun h => absurd h (show ¬ nI ((zM j).2) = nI 3 from fun h9 => absurd ((nI_eq (by omega) (by omega)).mp h9) (by omega)))
      refine lv_aload_n hx hb d_Mo_feedByte_128 rfl (lv_at hl 1 rfl) ?_
      refine lv_aload_n hx hb d_Mo_feedByte_129 rfl (lv_at hl 1 rfl) ?_
      obtain ⟨hsd20, he19⟩ := zr_M0 hSh
      refine va_get (C := R_Mo) (T := T_Mo) (N := 19) (v := .ref (aw_m ad 8)) hx hb hG in_Mo hown hK hP 67 he19 rfl 8 (by decide) (hG _ gw_9_33) (fun _ h => h) rfl d_Mo_feedByte_130 ?_
      clear he19
      refine lv_iload_n hx hb d_Mo_feedByte_133 rfl (lv_at hl 2 rfl) ?_
      have he21 := zr_M8 hSh
      refine aw_lld hx hb hK hP 75 1 he21 rfl (k := j) (by omega) (by decide) d_Mo_feedByte_134 ?_
      clear he21
      refine ag_topl (fun y22 ey22 => ?_)
      obtain ⟨_, he23⟩ := zr_M0 hSh
      refine va_calll (va_runV (As := [.long y22]) (rest := []) ⟨hx, hb, hml, hown, hG⟩ (k_Mo_onJV l D g ad N0 zG zO zX zY zA zB zM zI zL zN zF zQ kc y22 hkc) (aw_wV 1 hG gw_12_4 gw_12_2 gw_0_10 gw_12_3 gw_p_18 rfl rfl hd_Mo_on ⟨Nat.le_of_ble_eq_true rfl, Nat.le_of_ble_eq_true rfl⟩) (ag_qV (va_recv hK hP rfl he23) hP hD hSh hU hS) rfl rfl hl.1 rfl (lv_room (Nat.le_of_ble_eq_true rfl)) d_Mo_feedByte_135 ⟨Nat.le_of_ble_eq_true rfl, Nat.le_of_ble_eq_true rfl⟩) hS (fun _ _ h => h) (fun _ h => h) ?_
      clear hP hD hSh hS he23
      intro y24 u8 t8 H locs ht _ ey24 hB _ _ hS
      obtain ⟨L, hP, hD, hSh⟩ := hB
      rw [ht] at hP
      clear ht
      have ey24 := ey24.symm
      refine lv_lstore hx hb d_Mo_feedByte_138 hl (by decide) rfl (fun ls hl => ?_)
      have hl : lv_has ls 7 [(5, .long y24), (4, .int x4), (0, .ref (aw_m ad 0)), (1, .int (nI j)), (2, .int bk), (3, .int (nI k))] := hl
      refine lv_aload_n hx hb d_Mo_feedByte_140 rfl (lv_at hl 2 rfl) ?_
      obtain ⟨hsd26, he25⟩ := zr_M0 hSh
      refine va_get (C := R_Mo) (T := T_Mo) (N := 19) (v := .ref (aw_m ad 1)) hx hb hG in_Mo hown hK hP 67 he25 rfl 1 (by decide) (hG _ gw_9_26) (fun _ h => h) rfl d_Mo_feedByte_141 ?_
      clear he25
      refine lv_iload_n hx hb d_Mo_feedByte_144 rfl (lv_at hl 5 rfl) ?_
      refine lv_iload hx hb d_Mo_feedByte_145 (lv_at hl 1 rfl) ?_
      refine lv_lload hx hb d_Mo_feedByte_147 (lv_at hl 0 rfl) ?_
      refine lv_bipush (v := nI 56) hx hb d_Mo_feedByte_149 (by decide +kernel) ?_
      refine lv_bipush (v := nI 8) hx hb d_Mo_feedByte_151 (by decide +kernel) ?_
      refine lv_aload_n hx hb d_Mo_feedByte_153 rfl (lv_at hl 2 rfl) ?_
      obtain ⟨hsd28, he27⟩ := zr_M0 hSh
      refine va_get (C := R_Mo) (T := T_Mo) (N := 19) (v := .ref (aw_m ad 9)) hx hb hG in_Mo hown hK hP 67 he27 rfl 9 (by decide) (hG _ gw_9_34) (fun _ h => h) rfl d_Mo_feedByte_154 ?_
      clear he27
      refine lv_iload_n hx hb d_Mo_feedByte_157 rfl (lv_at hl 3 rfl) ?_
      have he29 := zr_M9 hSh
      refine aw_ild hx hb hK hP 76 0 he29 rfl (k := j) (by omega) (by decide) d_Mo_feedByte_158 ?_
      clear he29
      refine ag_topi (fun x30 ex30 => ?_)
      refine lv_imul hx hb d_Mo_feedByte_159 ?_
      refine ag_topi (fun x31 ex31 => ?_)
      refine lv_isub hx hb d_Mo_feedByte_160 ?_
      refine ag_topi (fun x32 ex32 => ?_)
      refine lv_lushr hx hb d_Mo_feedByte_161 rfl ?_
      refine ag_topl (fun y33 ey33 => ?_)
      refine lv_l2i hx hb d_Mo_feedByte_162 rfl ?_
      refine ag_topi (fun x34 ex34 => ?_)
      refine lv_sipush (v := nI 255) hx hb d_Mo_feedByte_163 (by decide +kernel) ?_
      refine lv_iand hx hb d_Mo_feedByte_166 ?_
      refine ag_topi (fun x35 ex35 => ?_)
      refine lv_ixor hx hb d_Mo_feedByte_167 ?_
      refine ag_topi (fun x36 ex36 => ?_)
      have he37 := zr_M1 hSh
      refine ag_ist hx hb hK hP hD hS 68 0 he37 rfl (k := k) (by omega) (by decide) d_Mo_feedByte_168 (zw_I1w hSh k x36) ?_
      clear hP hD hSh hS he37
      intro H locs L hP hD hSh hS
      obtain ⟨zI38, ezI38⟩ : ∃ z : Nat → Nat → Int32, az_v zI 1 k x36 = z := ⟨_, rfl⟩
      rw [ezI38] at hSh
      refine lv_aload_n hx hb d_Mo_feedByte_169 rfl (lv_at hl 2 rfl) ?_
      obtain ⟨hsd40, he39⟩ := zr_M0 hSh
      refine va_get (C := R_Mo) (T := T_Mo) (N := 19) (v := .ref (aw_m ad 9)) hx hb hG in_Mo hown hK hP 67 he39 rfl 9 (by decide) (hG _ gw_9_34) (fun _ h => h) rfl d_Mo_feedByte_170 ?_
      clear he39
      refine lv_iload_n hx hb d_Mo_feedByte_173 rfl (lv_at hl 3 rfl) ?_
      refine lv_aload_n hx hb d_Mo_feedByte_174 rfl (lv_at hl 2 rfl) ?_
      obtain ⟨hsd42, he41⟩ := zr_M0 hSh
      refine va_get (C := R_Mo) (T := T_Mo) (N := 19) (v := .ref (aw_m ad 9)) hx hb hG in_Mo hown hK hP 67 he41 rfl 9 (by decide) (hG _ gw_9_34) (fun _ h => h) rfl d_Mo_feedByte_175 ?_
      clear he41
      refine lv_iload_n hx hb d_Mo_feedByte_178 rfl (lv_at hl 3 rfl) ?_
      have he43 := zr_M9 hSh
      refine aw_ild hx hb hK hP 76 0 he43 rfl (k := j) (by omega) (by decide) d_Mo_feedByte_179 ?_
      clear he43
      refine ag_topi (fun x44 ex44 => ?_)
      refine lv_iconst (v := nI 1) hx hb d_Mo_feedByte_180 (by decide +kernel) ?_
      refine lv_iadd hx hb d_Mo_feedByte_181 ?_
      refine ag_topi (fun x45 ex45 => ?_)
      refine lv_bipush (v := nI 8) hx hb d_Mo_feedByte_182 (by decide +kernel) ?_
      refine lv_irem hx hb d_Mo_feedByte_184 (by decide +kernel) ?_
      refine ag_topi (fun x46 ex46 => ?_)
      have he47 := zr_M9 hSh
      refine ag_ist hx hb hK hP hD hS 76 0 he47 rfl (k := j) (by omega) (by decide) d_Mo_feedByte_185 (zw_I9w hSh j x46) ?_
      clear hP hD hSh hS he47
      intro H locs L hP hD hSh hS
      obtain ⟨zI48, ezI48⟩ : ∃ z : Nat → Nat → Int32, az_v zI38 9 j x46 = z := ⟨_, rfl⟩
      rw [ezI48] at hSh
      refine lv_aload_n hx hb d_Mo_feedByte_186 rfl (lv_at hl 2 rfl) ?_
      obtain ⟨hsd50, he49⟩ := zr_M0 hSh
      refine va_get (C := R_Mo) (T := T_Mo) (N := 19) (v := .ref (aw_m ad 8)) hx hb hG in_Mo hown hK hP 67 he49 rfl 8 (by decide) (hG _ gw_9_33) (fun _ h => h) rfl d_Mo_feedByte_187 ?_
      clear he49
      refine lv_iload_n hx hb d_Mo_feedByte_190 rfl (lv_at hl 3 rfl) ?_
      refine lv_aload_n hx hb d_Mo_feedByte_191 rfl (lv_at hl 2 rfl) ?_
      obtain ⟨hsd52, he51⟩ := zr_M0 hSh
      refine va_get (C := R_Mo) (T := T_Mo) (N := 19) (v := .ref (aw_m ad 6)) hx hb hG in_Mo hown hK hP 67 he51 rfl 6 (by decide) (hG _ gw_9_31) (fun _ h => h) rfl d_Mo_feedByte_192 ?_
      clear he51
      refine lv_iload_n hx hb d_Mo_feedByte_195 rfl (lv_at hl 3 rfl) ?_
      obtain ⟨hsd54, he53⟩ := zr_M6 hSh
      refine aw_ild hx hb hK hP 73 0 he53 rfl (k := j) (by omega) (by decide) d_Mo_feedByte_196 ?_
      clear he53
      refine aw_ti (y := nI (zM j).2) (hsd54 _ (by omega)) ?_
      have hm := hSh.2.2.2.2.2 j (by omega)
      refine lv_iconst (v := nI 4) hx hb d_Mo_feedByte_197 (by decide +kernel) ?_
      refine lv_icmp_ne (tgt := 221) hx hb d_Mo_feedByte_198 (by decide) (fun hb55 => ?_) (fun hb55 => ?_)
      · have nhb55 : ¬ (zM j).2 = 4 := fun z => absurd ((nI_eq (by omega) (by omega)).mpr z) hb55
        refine lv_aload_n hx hb d_Mo_feedByte_221 rfl (lv_at hl 2 rfl) ?_
        obtain ⟨hsd57, he56⟩ := zr_M0 hSh
        refine va_get (C := R_Mo) (T := T_Mo) (N := 19) (v := .ref (aw_m ad 8)) hx hb hG in_Mo hown hK hP 67 he56 rfl 8 (by decide) (hG _ gw_9_33) (fun _ h => h) rfl d_Mo_feedByte_222 ?_
        clear he56
        refine lv_iload_n hx hb d_Mo_feedByte_225 rfl (lv_at hl 3 rfl) ?_
        have he58 := zr_M8 hSh
        refine aw_lld hx hb hK hP 75 1 he58 rfl (k := j) (by omega) (by decide) d_Mo_feedByte_226 ?_
        clear he58
        refine ag_topl (fun y59 ey59 => ?_)
        have he60 := zr_M8 hSh
        refine ag_lst hx hb hK hP hD hS 75 1 he60 rfl (k := j) (by omega) (by decide) d_Mo_feedByte_227 (zw_L8w hSh j y59) ?_
        clear hP hD hSh hS he60
        intro H locs L hP hD hSh hS
        obtain ⟨zL61, ezL61⟩ : ∃ z : Nat → Nat → Int64, az_vl zL 8 j y59 = z := ⟨_, rfl⟩
        rw [ezL61] at hSh
        have gzI : zI48 = v_Mo_feedByteV_zI zM zI zL j kc bk k := by subst ezL61 ey59 ezI48 ex46 ex45 ex44 ezI38 ex36 ex35 ex34 ey33 ex32 ex31 ex30 ey24 ey22 ex4; unfold v_Mo_feedByteV_zI; rw [if_neg hb9, if_neg hb14, if_neg hb55]
        have gzL : zL61 = v_Mo_feedByteV_zL zM zI zL j kc bk k := by subst ezL61 ey59 ezI48 ex46 ex45 ex44 ezI38 ex36 ex35 ex34 ey33 ex32 ex31 ex30 ey24 ey22 ex4; unfold v_Mo_feedByteV_zL; rw [if_neg hb9, if_neg hb14, if_neg hb55]
        have hSh : az_Sh g ad zG zO zX zY zA zB zM (v_Mo_feedByteV_zI zM zI zL j kc bk k) (v_Mo_feedByteV_zL zM zI zL j kc bk k) (nI kc) zN zF zQ L := by rw [← gzI, ← gzL]; exact hSh
        exact W.vret hx hb hr (fun t ht hW => ⟨⟨(), rfl, trivial, ag_Hr ht hP hD hSh⟩, hS.F ht⟩) hS.2.2 d_Mo_feedByte_228
      · have nhb55 : (zM j).2 = 4 := (nI_eq (by omega) (by omega)).mp hb55
        refine lv_aload_n hx hb d_Mo_feedByte_201 rfl (lv_at hl 2 rfl) ?_
        obtain ⟨hsd63, he62⟩ := zr_M0 hSh
        refine va_get (C := R_Mo) (T := T_Mo) (N := 19) (v := .ref (aw_m ad 9)) hx hb hG in_Mo hown hK hP 67 he62 rfl 9 (by decide) (hG _ gw_9_34) (fun _ h => h) rfl d_Mo_feedByte_202 ?_
        clear he62
        refine lv_iload_n hx hb d_Mo_feedByte_205 rfl (lv_at hl 3 rfl) ?_
        have he64 := zr_M9 hSh
        refine aw_ild hx hb hK hP 76 0 he64 rfl (k := j) (by omega) (by decide) d_Mo_feedByte_206 ?_
        clear he64
        refine ag_topi (fun x65 ex65 => ?_)
        refine lv_if_ne (tgt := 221) hx hb d_Mo_feedByte_207 (by decide) (fun hb66 => ?_) (fun hb66 => ?_)
        · refine lv_aload_n hx hb d_Mo_feedByte_221 rfl (lv_at hl 2 rfl) ?_
          obtain ⟨hsd68, he67⟩ := zr_M0 hSh
          refine va_get (C := R_Mo) (T := T_Mo) (N := 19) (v := .ref (aw_m ad 8)) hx hb hG in_Mo hown hK hP 67 he67 rfl 8 (by decide) (hG _ gw_9_33) (fun _ h => h) rfl d_Mo_feedByte_222 ?_
          clear he67
          refine lv_iload_n hx hb d_Mo_feedByte_225 rfl (lv_at hl 3 rfl) ?_
          have he69 := zr_M8 hSh
          refine aw_lld hx hb hK hP 75 1 he69 rfl (k := j) (by omega) (by decide) d_Mo_feedByte_226 ?_
          clear he69
          refine ag_topl (fun y70 ey70 => ?_)
          have he71 := zr_M8 hSh
          refine ag_lst hx hb hK hP hD hS 75 1 he71 rfl (k := j) (by omega) (by decide) d_Mo_feedByte_227 (zw_L8w hSh j y70) ?_
          clear hP hD hSh hS he71
          intro H locs L hP hD hSh hS
          obtain ⟨zL72, ezL72⟩ : ∃ z : Nat → Nat → Int64, az_vl zL 8 j y70 = z := ⟨_, rfl⟩
          rw [ezL72] at hSh
          have gzI : zI48 = v_Mo_feedByteV_zI zM zI zL j kc bk k := by subst ezL72 ey70 ex65 ezI48 ex46 ex45 ex44 ezI38 ex36 ex35 ex34 ey33 ex32 ex31 ex30 ey24 ey22 ex4; unfold v_Mo_feedByteV_zI; rw [if_neg hb9, if_neg hb14, if_pos hb55, if_neg hb66]
          have gzL : zL72 = v_Mo_feedByteV_zL zM zI zL j kc bk k := by subst ezL72 ey70 ex65 ezI48 ex46 ex45 ex44 ezI38 ex36 ex35 ex34 ey33 ex32 ex31 ex30 ey24 ey22 ex4; unfold v_Mo_feedByteV_zL; rw [if_neg hb9, if_neg hb14, if_pos hb55, if_neg hb66]
          have hSh : az_Sh g ad zG zO zX zY zA zB zM (v_Mo_feedByteV_zI zM zI zL j kc bk k) (v_Mo_feedByteV_zL zM zI zL j kc bk k) (nI kc) zN zF zQ L := by rw [← gzI, ← gzL]; exact hSh
          exact W.vret hx hb hr (fun t ht hW => ⟨⟨(), rfl, trivial, ag_Hr ht hP hD hSh⟩, hS.F ht⟩) hS.2.2 d_Mo_feedByte_228
        · refine lv_aload_n hx hb d_Mo_feedByte_210 rfl (lv_at hl 2 rfl) ?_
          obtain ⟨hsd74, he73⟩ := zr_M0 hSh
          refine va_get (C := R_Mo) (T := T_Mo) (N := 19) (v := .ref (aw_m ad 8)) hx hb hG in_Mo hown hK hP 67 he73 rfl 8 (by decide) (hG _ gw_9_33) (fun _ h => h) rfl d_Mo_feedByte_211 ?_
          clear he73
          refine lv_iload_n hx hb d_Mo_feedByte_214 rfl (lv_at hl 3 rfl) ?_
          have he75 := zr_M8 hSh
          refine aw_lld hx hb hK hP 75 1 he75 rfl (k := j) (by omega) (by decide) d_Mo_feedByte_215 ?_
          clear he75
          refine ag_topl (fun y76 ey76 => ?_)
          refine lv_lconst (v := 1) hx hb d_Mo_feedByte_216 (by decide +kernel) ?_
          refine lv_ladd hx hb d_Mo_feedByte_217 ?_
          refine ag_topl (fun y77 ey77 => ?_)
          refine lv_goto (tgt := 227) hx hb d_Mo_feedByte_218 (by decide) ?_
          have he78 := zr_M8 hSh
          refine ag_lst hx hb hK hP hD hS 75 1 he78 rfl (k := j) (by omega) (by decide) d_Mo_feedByte_227 (zw_L8w hSh j y77) ?_
          clear hP hD hSh hS he78
          intro H locs L hP hD hSh hS
          obtain ⟨zL79, ezL79⟩ : ∃ z : Nat → Nat → Int64, az_vl zL 8 j y77 = z := ⟨_, rfl⟩
          rw [ezL79] at hSh
          have gzI : zI48 = v_Mo_feedByteV_zI zM zI zL j kc bk k := by subst ezL79 ey77 ey76 ex65 ezI48 ex46 ex45 ex44 ezI38 ex36 ex35 ex34 ey33 ex32 ex31 ex30 ey24 ey22 ex4; unfold v_Mo_feedByteV_zI; rw [if_neg hb9, if_neg hb14, if_pos hb55, if_pos hb66]
          have gzL : zL79 = v_Mo_feedByteV_zL zM zI zL j kc bk k := by subst ezL79 ey77 ey76 ex65 ezI48 ex46 ex45 ex44 ezI38 ex36 ex35 ex34 ey33 ex32 ex31 ex30 ey24 ey22 ex4; unfold v_Mo_feedByteV_zL; rw [if_neg hb9, if_neg hb14, if_pos hb55, if_pos hb66]
          have hSh : az_Sh g ad zG zO zX zY zA zB zM (v_Mo_feedByteV_zI zM zI zL j kc bk k) (v_Mo_feedByteV_zL zM zI zL j kc bk k) (nI kc) zN zF zQ L := by rw [← gzI, ← gzL]; exact hSh
          exact W.vret hx hb hr (fun t ht hW => ⟨⟨(), rfl, trivial, ag_Hr ht hP hD hSh⟩, hS.F ht⟩) hS.2.2 d_Mo_feedByte_228
    · have nhb14 : (zM j).2 = 3 := (nI_eq (by omega) (by omega)).mp hb14
      refine lv_aload_n hx hb d_Mo_feedByte_84 rfl (lv_at hl 1 rfl) ?_
      obtain ⟨hsd81, he80⟩ := zr_M0 hSh
      refine va_get (C := R_Mo) (T := T_Mo) (N := 19) (v := .ref (aw_m ad 9)) hx hb hG in_Mo hown hK hP 67 he80 rfl 9 (by decide) (hG _ gw_9_34) (fun _ h => h) rfl d_Mo_feedByte_85 ?_
      clear he80
      refine lv_iload_n hx hb d_Mo_feedByte_88 rfl (lv_at hl 2 rfl) ?_
      have he82 := zr_M9 hSh
      refine aw_ild hx hb hK hP 76 0 he82 rfl (k := j) (by omega) (by decide) d_Mo_feedByte_89 ?_
      clear he82
      refine ag_topi (fun x83 ex83 => ?_)
      refine lv_if_ne (tgt := 109) hx hb d_Mo_feedByte_90 (by decide) (fun hb84 => ?_) (fun hb84 => ?_)
      · refine lv_aload_n hx hb d_Mo_feedByte_109 rfl (lv_at hl 1 rfl) ?_
        obtain ⟨hsd86, he85⟩ := zr_M0 hSh
        refine va_get (C := R_Mo) (T := T_Mo) (N := 19) (v := .ref (aw_m ad 6)) hx hb hG in_Mo hown hK hP 67 he85 rfl 6 (by decide) (hG _ gw_9_31) (fun _ h => h) rfl d_Mo_feedByte_110 ?_
        clear he85
        refine lv_iload_n hx hb d_Mo_feedByte_113 rfl (lv_at hl 2 rfl) ?_
        obtain ⟨hsd88, he87⟩ := zr_M6 hSh
        refine aw_ild hx hb hK hP 73 0 he87 rfl (k := j) (by omega) (by decide) d_Mo_feedByte_114 ?_
        clear he87
        refine aw_ti (y := nI (zM j).2) (hsd88 _ (by omega)) ?_
        have hm := hSh.2.2.2.2.2 j (by omega)
        refine lv_iconst (v := nI 3) hx hb d_Mo_feedByte_115 (by decide +kernel) ?_
        refine lv_icmp_ne (tgt := 128) hx hb d_Mo_feedByte_116 (by decide) (fun h => absurd (show nI ((zM j).2) = nI 3 from (nI_eq (by omega) (by omega)).mpr (by omega)) h) (fun _ => ?_)
        refine lv_aload_n hx hb d_Mo_feedByte_119 rfl (lv_at hl 1 rfl) ?_
        obtain ⟨hsd90, he89⟩ := zr_M0 hSh
        refine va_get (C := R_Mo) (T := T_Mo) (N := 19) (v := .ref (aw_m ad 8)) hx hb hG in_Mo hown hK hP 67 he89 rfl 8 (by decide) (hG _ gw_9_33) (fun _ h => h) rfl d_Mo_feedByte_120 ?_
        clear he89
        refine lv_iload_n hx hb d_Mo_feedByte_123 rfl (lv_at hl 2 rfl) ?_
        have he91 := zr_M8 hSh
        refine aw_lld hx hb hK hP 75 1 he91 rfl (k := j) (by omega) (by decide) d_Mo_feedByte_124 ?_
        clear he91
        refine ag_topl (fun y92 ey92 => ?_)
        refine lv_goto (tgt := 138) hx hb d_Mo_feedByte_125 (by decide) ?_
        refine lv_lstore hx hb d_Mo_feedByte_138 hl (by decide) rfl (fun ls hl => ?_)
        have hl : lv_has ls 7 [(5, .long y92), (4, .int x4), (0, .ref (aw_m ad 0)), (1, .int (nI j)), (2, .int bk), (3, .int (nI k))] := hl
        refine lv_aload_n hx hb d_Mo_feedByte_140 rfl (lv_at hl 2 rfl) ?_
        obtain ⟨hsd94, he93⟩ := zr_M0 hSh
        refine va_get (C := R_Mo) (T := T_Mo) (N := 19) (v := .ref (aw_m ad 1)) hx hb hG in_Mo hown hK hP 67 he93 rfl 1 (by decide) (hG _ gw_9_26) (fun _ h => h) rfl d_Mo_feedByte_141 ?_
        clear he93
        refine lv_iload_n hx hb d_Mo_feedByte_144 rfl (lv_at hl 5 rfl) ?_
        refine lv_iload hx hb d_Mo_feedByte_145 (lv_at hl 1 rfl) ?_
        refine lv_lload hx hb d_Mo_feedByte_147 (lv_at hl 0 rfl) ?_
        refine lv_bipush (v := nI 56) hx hb d_Mo_feedByte_149 (by decide +kernel) ?_
        refine lv_bipush (v := nI 8) hx hb d_Mo_feedByte_151 (by decide +kernel) ?_
        refine lv_aload_n hx hb d_Mo_feedByte_153 rfl (lv_at hl 2 rfl) ?_
        obtain ⟨hsd96, he95⟩ := zr_M0 hSh
        refine va_get (C := R_Mo) (T := T_Mo) (N := 19) (v := .ref (aw_m ad 9)) hx hb hG in_Mo hown hK hP 67 he95 rfl 9 (by decide) (hG _ gw_9_34) (fun _ h => h) rfl d_Mo_feedByte_154 ?_
        clear he95
        refine lv_iload_n hx hb d_Mo_feedByte_157 rfl (lv_at hl 3 rfl) ?_
        have he97 := zr_M9 hSh
        refine aw_ild hx hb hK hP 76 0 he97 rfl (k := j) (by omega) (by decide) d_Mo_feedByte_158 ?_
        clear he97
        refine ag_topi (fun x98 ex98 => ?_)
        refine lv_imul hx hb d_Mo_feedByte_159 ?_
        refine ag_topi (fun x99 ex99 => ?_)
        refine lv_isub hx hb d_Mo_feedByte_160 ?_
        refine ag_topi (fun x100 ex100 => ?_)
        refine lv_lushr hx hb d_Mo_feedByte_161 rfl ?_
        refine ag_topl (fun y101 ey101 => ?_)
        refine lv_l2i hx hb d_Mo_feedByte_162 rfl ?_
        refine ag_topi (fun x102 ex102 => ?_)
        refine lv_sipush (v := nI 255) hx hb d_Mo_feedByte_163 (by decide +kernel) ?_
        refine lv_iand hx hb d_Mo_feedByte_166 ?_
        refine ag_topi (fun x103 ex103 => ?_)
        refine lv_ixor hx hb d_Mo_feedByte_167 ?_
        refine ag_topi (fun x104 ex104 => ?_)
        have he105 := zr_M1 hSh
        refine ag_ist hx hb hK hP hD hS 68 0 he105 rfl (k := k) (by omega) (by decide) d_Mo_feedByte_168 (zw_I1w hSh k x104) ?_
        clear hP hD hSh hS he105
        intro H locs L hP hD hSh hS
        obtain ⟨zI106, ezI106⟩ : ∃ z : Nat → Nat → Int32, az_v zI 1 k x104 = z := ⟨_, rfl⟩
        rw [ezI106] at hSh
        refine lv_aload_n hx hb d_Mo_feedByte_169 rfl (lv_at hl 2 rfl) ?_
        obtain ⟨hsd108, he107⟩ := zr_M0 hSh
        refine va_get (C := R_Mo) (T := T_Mo) (N := 19) (v := .ref (aw_m ad 9)) hx hb hG in_Mo hown hK hP 67 he107 rfl 9 (by decide) (hG _ gw_9_34) (fun _ h => h) rfl d_Mo_feedByte_170 ?_
        clear he107
        refine lv_iload_n hx hb d_Mo_feedByte_173 rfl (lv_at hl 3 rfl) ?_
        refine lv_aload_n hx hb d_Mo_feedByte_174 rfl (lv_at hl 2 rfl) ?_
        obtain ⟨hsd110, he109⟩ := zr_M0 hSh
        refine va_get (C := R_Mo) (T := T_Mo) (N := 19) (v := .ref (aw_m ad 9)) hx hb hG in_Mo hown hK hP 67 he109 rfl 9 (by decide) (hG _ gw_9_34) (fun _ h => h) rfl d_Mo_feedByte_175 ?_
        clear he109
        refine lv_iload_n hx hb d_Mo_feedByte_178 rfl (lv_at hl 3 rfl) ?_
        have he111 := zr_M9 hSh
        refine aw_ild hx hb hK hP 76 0 he111 rfl (k := j) (by omega) (by decide) d_Mo_feedByte_179 ?_
        clear he111
        refine ag_topi (fun x112 ex112 => ?_)
        refine lv_iconst (v := nI 1) hx hb d_Mo_feedByte_180 (by decide +kernel) ?_
        refine lv_iadd hx hb d_Mo_feedByte_181 ?_
        refine ag_topi (fun x113 ex113 => ?_)
        refine lv_bipush (v := nI 8) hx hb d_Mo_feedByte_182 (by decide +kernel) ?_
        refine lv_irem hx hb d_Mo_feedByte_184 (by decide +kernel) ?_
        refine ag_topi (fun x114 ex114 => ?_)
        have he115 := zr_M9 hSh
        refine ag_ist hx hb hK hP hD hS 76 0 he115 rfl (k := j) (by omega) (by decide) d_Mo_feedByte_185 (zw_I9w hSh j x114) ?_
        clear hP hD hSh hS he115
        intro H locs L hP hD hSh hS
        obtain ⟨zI116, ezI116⟩ : ∃ z : Nat → Nat → Int32, az_v zI106 9 j x114 = z := ⟨_, rfl⟩
        rw [ezI116] at hSh
        refine lv_aload_n hx hb d_Mo_feedByte_186 rfl (lv_at hl 2 rfl) ?_
        obtain ⟨hsd118, he117⟩ := zr_M0 hSh
        refine va_get (C := R_Mo) (T := T_Mo) (N := 19) (v := .ref (aw_m ad 8)) hx hb hG in_Mo hown hK hP 67 he117 rfl 8 (by decide) (hG _ gw_9_33) (fun _ h => h) rfl d_Mo_feedByte_187 ?_
        clear he117
        refine lv_iload_n hx hb d_Mo_feedByte_190 rfl (lv_at hl 3 rfl) ?_
        refine lv_aload_n hx hb d_Mo_feedByte_191 rfl (lv_at hl 2 rfl) ?_
        obtain ⟨hsd120, he119⟩ := zr_M0 hSh
        refine va_get (C := R_Mo) (T := T_Mo) (N := 19) (v := .ref (aw_m ad 6)) hx hb hG in_Mo hown hK hP 67 he119 rfl 6 (by decide) (hG _ gw_9_31) (fun _ h => h) rfl d_Mo_feedByte_192 ?_
        clear he119
        refine lv_iload_n hx hb d_Mo_feedByte_195 rfl (lv_at hl 3 rfl) ?_
        obtain ⟨hsd122, he121⟩ := zr_M6 hSh
        refine aw_ild hx hb hK hP 73 0 he121 rfl (k := j) (by omega) (by decide) d_Mo_feedByte_196 ?_
        clear he121
        refine aw_ti (y := nI (zM j).2) (hsd122 _ (by omega)) ?_
        have hm := hSh.2.2.2.2.2 j (by omega)
        refine lv_iconst (v := nI 4) hx hb d_Mo_feedByte_197 (by decide +kernel) ?_
        refine lv_icmp_ne (tgt := 221) hx hb d_Mo_feedByte_198 (by decide) (fun _ => ?_) (fun h => absurd h (show ¬ nI ((zM j).2) = nI 4 from fun h9 => absurd ((nI_eq (by omega) (by omega)).mp h9) (by omega)))
        refine lv_aload_n hx hb d_Mo_feedByte_221 rfl (lv_at hl 2 rfl) ?_
        obtain ⟨hsd124, he123⟩ := zr_M0 hSh
        refine va_get (C := R_Mo) (T := T_Mo) (N := 19) (v := .ref (aw_m ad 8)) hx hb hG in_Mo hown hK hP 67 he123 rfl 8 (by decide) (hG _ gw_9_33) (fun _ h => h) rfl d_Mo_feedByte_222 ?_
        clear he123
        refine lv_iload_n hx hb d_Mo_feedByte_225 rfl (lv_at hl 3 rfl) ?_
        have he125 := zr_M8 hSh
        refine aw_lld hx hb hK hP 75 1 he125 rfl (k := j) (by omega) (by decide) d_Mo_feedByte_226 ?_
        clear he125
        refine ag_topl (fun y126 ey126 => ?_)
        have he127 := zr_M8 hSh
        refine ag_lst hx hb hK hP hD hS 75 1 he127 rfl (k := j) (by omega) (by decide) d_Mo_feedByte_227 (zw_L8w hSh j y126) ?_
        clear hP hD hSh hS he127
        intro H locs L hP hD hSh hS
        obtain ⟨zL128, ezL128⟩ : ∃ z : Nat → Nat → Int64, az_vl zL 8 j y126 = z := ⟨_, rfl⟩
        rw [ezL128] at hSh
        have gzI : zI116 = v_Mo_feedByteV_zI zM zI zL j kc bk k := by subst ezL128 ey126 ezI116 ex114 ex113 ex112 ezI106 ex104 ex103 ex102 ey101 ex100 ex99 ex98 ey92 ex83 ex4; unfold v_Mo_feedByteV_zI; rw [if_neg hb9, if_pos hb14, if_neg hb84]
        have gzL : zL128 = v_Mo_feedByteV_zL zM zI zL j kc bk k := by subst ezL128 ey126 ezI116 ex114 ex113 ex112 ezI106 ex104 ex103 ex102 ey101 ex100 ex99 ex98 ey92 ex83 ex4; unfold v_Mo_feedByteV_zL; rw [if_neg hb9, if_pos hb14, if_neg hb84]
        have hSh : az_Sh g ad zG zO zX zY zA zB zM (v_Mo_feedByteV_zI zM zI zL j kc bk k) (v_Mo_feedByteV_zL zM zI zL j kc bk k) (nI kc) zN zF zQ L := by rw [← gzI, ← gzL]; exact hSh
        exact W.vret hx hb hr (fun t ht hW => ⟨⟨(), rfl, trivial, ag_Hr ht hP hD hSh⟩, hS.F ht⟩) hS.2.2 d_Mo_feedByte_228
      · refine lv_aload_n hx hb d_Mo_feedByte_93 rfl (lv_at hl 1 rfl) ?_
        obtain ⟨hsd130, he129⟩ := zr_M0 hSh
        refine va_get (C := R_Mo) (T := T_Mo) (N := 19) (v := .ref (aw_m ad 8)) hx hb hG in_Mo hown hK hP 67 he129 rfl 8 (by decide) (hG _ gw_9_33) (fun _ h => h) rfl d_Mo_feedByte_94 ?_
        clear he129
        refine lv_iload_n hx hb d_Mo_feedByte_97 rfl (lv_at hl 2 rfl) ?_
        refine lv_aload_n hx hb d_Mo_feedByte_98 rfl (lv_at hl 1 rfl) ?_
        refine lv_aload_n hx hb d_Mo_feedByte_99 rfl (lv_at hl 1 rfl) ?_
        obtain ⟨hsd132, he131⟩ := zr_M0 hSh
        refine va_get (C := R_Mo) (T := T_Mo) (N := 19) (v := .ref (aw_m ad 8)) hx hb hG in_Mo hown hK hP 67 he131 rfl 8 (by decide) (hG _ gw_9_33) (fun _ h => h) rfl d_Mo_feedByte_100 ?_
        clear he131
        refine lv_iload_n hx hb d_Mo_feedByte_103 rfl (lv_at hl 2 rfl) ?_
        have he133 := zr_M8 hSh
        refine aw_lld hx hb hK hP 75 1 he133 rfl (k := j) (by omega) (by decide) d_Mo_feedByte_104 ?_
        clear he133
        refine ag_topl (fun y134 ey134 => ?_)
        obtain ⟨_, he135⟩ := zr_M0 hSh
        refine va_calll (va_runV (As := [.long y134]) (rest := [.int (nI j), .ref (aw_m ad 8)]) ⟨hx, hb, hml, hown, hG⟩ (k_Mo_onJV l D g ad N0 zG zO zX zY zA zB zM zI zL zN zF zQ kc y134 hkc) (aw_wV 1 hG gw_12_4 gw_12_2 gw_0_10 gw_12_3 gw_p_18 rfl rfl hd_Mo_on ⟨Nat.le_of_ble_eq_true rfl, Nat.le_of_ble_eq_true rfl⟩) (ag_qV (va_recv hK hP rfl he135) hP hD hSh hU hS) rfl rfl hl.1 rfl (lv_room (Nat.le_of_ble_eq_true rfl)) d_Mo_feedByte_105 ⟨Nat.le_of_ble_eq_true rfl, Nat.le_of_ble_eq_true rfl⟩) hS (fun _ _ h => h) (fun _ h => h) ?_
        clear hP hD hSh hS he135
        intro y136 u8 t8 H locs ht _ ey136 hB _ _ hS
        obtain ⟨L, hP, hD, hSh⟩ := hB
        rw [ht] at hP
        clear ht
        have ey136 := ey136.symm
        have he137 := zr_M8 hSh
        refine ag_lst hx hb hK hP hD hS 75 1 he137 rfl (k := j) (by omega) (by decide) d_Mo_feedByte_108 (zw_L8w hSh j y136) ?_
        clear hP hD hSh hS he137
        intro H locs L hP hD hSh hS
        obtain ⟨zL138, ezL138⟩ : ∃ z : Nat → Nat → Int64, az_vl zL 8 j y136 = z := ⟨_, rfl⟩
        rw [ezL138] at hSh
        refine lv_aload_n hx hb d_Mo_feedByte_109 rfl (lv_at hl 1 rfl) ?_
        obtain ⟨hsd140, he139⟩ := zr_M0 hSh
        refine va_get (C := R_Mo) (T := T_Mo) (N := 19) (v := .ref (aw_m ad 6)) hx hb hG in_Mo hown hK hP 67 he139 rfl 6 (by decide) (hG _ gw_9_31) (fun _ h => h) rfl d_Mo_feedByte_110 ?_
        clear he139
        refine lv_iload_n hx hb d_Mo_feedByte_113 rfl (lv_at hl 2 rfl) ?_
        obtain ⟨hsd142, he141⟩ := zr_M6 hSh
        refine aw_ild hx hb hK hP 73 0 he141 rfl (k := j) (by omega) (by decide) d_Mo_feedByte_114 ?_
        clear he141
        refine aw_ti (y := nI (zM j).2) (hsd142 _ (by omega)) ?_
        have hm := hSh.2.2.2.2.2 j (by omega)
        refine lv_iconst (v := nI 3) hx hb d_Mo_feedByte_115 (by decide +kernel) ?_
        refine lv_icmp_ne (tgt := 128) hx hb d_Mo_feedByte_116 (by decide) (fun h => absurd (show nI ((zM j).2) = nI 3 from (nI_eq (by omega) (by omega)).mpr (by omega)) h) (fun _ => ?_)
        refine lv_aload_n hx hb d_Mo_feedByte_119 rfl (lv_at hl 1 rfl) ?_
        obtain ⟨hsd144, he143⟩ := zr_M0 hSh
        refine va_get (C := R_Mo) (T := T_Mo) (N := 19) (v := .ref (aw_m ad 8)) hx hb hG in_Mo hown hK hP 67 he143 rfl 8 (by decide) (hG _ gw_9_33) (fun _ h => h) rfl d_Mo_feedByte_120 ?_
        clear he143
        refine lv_iload_n hx hb d_Mo_feedByte_123 rfl (lv_at hl 2 rfl) ?_
        have he145 := zr_M8 hSh
        refine aw_lld hx hb hK hP 75 1 he145 rfl (k := j) (by omega) (by decide) d_Mo_feedByte_124 ?_
        clear he145
        refine ag_topl (fun y146 ey146 => ?_)
        refine lv_goto (tgt := 138) hx hb d_Mo_feedByte_125 (by decide) ?_
        refine lv_lstore hx hb d_Mo_feedByte_138 hl (by decide) rfl (fun ls hl => ?_)
        have hl : lv_has ls 7 [(5, .long y146), (4, .int x4), (0, .ref (aw_m ad 0)), (1, .int (nI j)), (2, .int bk), (3, .int (nI k))] := hl
        refine lv_aload_n hx hb d_Mo_feedByte_140 rfl (lv_at hl 2 rfl) ?_
        obtain ⟨hsd148, he147⟩ := zr_M0 hSh
        refine va_get (C := R_Mo) (T := T_Mo) (N := 19) (v := .ref (aw_m ad 1)) hx hb hG in_Mo hown hK hP 67 he147 rfl 1 (by decide) (hG _ gw_9_26) (fun _ h => h) rfl d_Mo_feedByte_141 ?_
        clear he147
        refine lv_iload_n hx hb d_Mo_feedByte_144 rfl (lv_at hl 5 rfl) ?_
        refine lv_iload hx hb d_Mo_feedByte_145 (lv_at hl 1 rfl) ?_
        refine lv_lload hx hb d_Mo_feedByte_147 (lv_at hl 0 rfl) ?_
        refine lv_bipush (v := nI 56) hx hb d_Mo_feedByte_149 (by decide +kernel) ?_
        refine lv_bipush (v := nI 8) hx hb d_Mo_feedByte_151 (by decide +kernel) ?_
        refine lv_aload_n hx hb d_Mo_feedByte_153 rfl (lv_at hl 2 rfl) ?_
        obtain ⟨hsd150, he149⟩ := zr_M0 hSh
        refine va_get (C := R_Mo) (T := T_Mo) (N := 19) (v := .ref (aw_m ad 9)) hx hb hG in_Mo hown hK hP 67 he149 rfl 9 (by decide) (hG _ gw_9_34) (fun _ h => h) rfl d_Mo_feedByte_154 ?_
        clear he149
        refine lv_iload_n hx hb d_Mo_feedByte_157 rfl (lv_at hl 3 rfl) ?_
        have he151 := zr_M9 hSh
        refine aw_ild hx hb hK hP 76 0 he151 rfl (k := j) (by omega) (by decide) d_Mo_feedByte_158 ?_
        clear he151
        refine ag_topi (fun x152 ex152 => ?_)
        refine lv_imul hx hb d_Mo_feedByte_159 ?_
        refine ag_topi (fun x153 ex153 => ?_)
        refine lv_isub hx hb d_Mo_feedByte_160 ?_
        refine ag_topi (fun x154 ex154 => ?_)
        refine lv_lushr hx hb d_Mo_feedByte_161 rfl ?_
        refine ag_topl (fun y155 ey155 => ?_)
        refine lv_l2i hx hb d_Mo_feedByte_162 rfl ?_
        refine ag_topi (fun x156 ex156 => ?_)
        refine lv_sipush (v := nI 255) hx hb d_Mo_feedByte_163 (by decide +kernel) ?_
        refine lv_iand hx hb d_Mo_feedByte_166 ?_
        refine ag_topi (fun x157 ex157 => ?_)
        refine lv_ixor hx hb d_Mo_feedByte_167 ?_
        refine ag_topi (fun x158 ex158 => ?_)
        have he159 := zr_M1 hSh
        refine ag_ist hx hb hK hP hD hS 68 0 he159 rfl (k := k) (by omega) (by decide) d_Mo_feedByte_168 (zw_I1w hSh k x158) ?_
        clear hP hD hSh hS he159
        intro H locs L hP hD hSh hS
        obtain ⟨zI160, ezI160⟩ : ∃ z : Nat → Nat → Int32, az_v zI 1 k x158 = z := ⟨_, rfl⟩
        rw [ezI160] at hSh
        refine lv_aload_n hx hb d_Mo_feedByte_169 rfl (lv_at hl 2 rfl) ?_
        obtain ⟨hsd162, he161⟩ := zr_M0 hSh
        refine va_get (C := R_Mo) (T := T_Mo) (N := 19) (v := .ref (aw_m ad 9)) hx hb hG in_Mo hown hK hP 67 he161 rfl 9 (by decide) (hG _ gw_9_34) (fun _ h => h) rfl d_Mo_feedByte_170 ?_
        clear he161
        refine lv_iload_n hx hb d_Mo_feedByte_173 rfl (lv_at hl 3 rfl) ?_
        refine lv_aload_n hx hb d_Mo_feedByte_174 rfl (lv_at hl 2 rfl) ?_
        obtain ⟨hsd164, he163⟩ := zr_M0 hSh
        refine va_get (C := R_Mo) (T := T_Mo) (N := 19) (v := .ref (aw_m ad 9)) hx hb hG in_Mo hown hK hP 67 he163 rfl 9 (by decide) (hG _ gw_9_34) (fun _ h => h) rfl d_Mo_feedByte_175 ?_
        clear he163
        refine lv_iload_n hx hb d_Mo_feedByte_178 rfl (lv_at hl 3 rfl) ?_
        have he165 := zr_M9 hSh
        refine aw_ild hx hb hK hP 76 0 he165 rfl (k := j) (by omega) (by decide) d_Mo_feedByte_179 ?_
        clear he165
        refine ag_topi (fun x166 ex166 => ?_)
        refine lv_iconst (v := nI 1) hx hb d_Mo_feedByte_180 (by decide +kernel) ?_
        refine lv_iadd hx hb d_Mo_feedByte_181 ?_
        refine ag_topi (fun x167 ex167 => ?_)
        refine lv_bipush (v := nI 8) hx hb d_Mo_feedByte_182 (by decide +kernel) ?_
        refine lv_irem hx hb d_Mo_feedByte_184 (by decide +kernel) ?_
        refine ag_topi (fun x168 ex168 => ?_)
        have he169 := zr_M9 hSh
        refine ag_ist hx hb hK hP hD hS 76 0 he169 rfl (k := j) (by omega) (by decide) d_Mo_feedByte_185 (zw_I9w hSh j x168) ?_
        clear hP hD hSh hS he169
        intro H locs L hP hD hSh hS
        obtain ⟨zI170, ezI170⟩ : ∃ z : Nat → Nat → Int32, az_v zI160 9 j x168 = z := ⟨_, rfl⟩
        rw [ezI170] at hSh
        refine lv_aload_n hx hb d_Mo_feedByte_186 rfl (lv_at hl 2 rfl) ?_
        obtain ⟨hsd172, he171⟩ := zr_M0 hSh
        refine va_get (C := R_Mo) (T := T_Mo) (N := 19) (v := .ref (aw_m ad 8)) hx hb hG in_Mo hown hK hP 67 he171 rfl 8 (by decide) (hG _ gw_9_33) (fun _ h => h) rfl d_Mo_feedByte_187 ?_
        clear he171
        refine lv_iload_n hx hb d_Mo_feedByte_190 rfl (lv_at hl 3 rfl) ?_
        refine lv_aload_n hx hb d_Mo_feedByte_191 rfl (lv_at hl 2 rfl) ?_
        obtain ⟨hsd174, he173⟩ := zr_M0 hSh
        refine va_get (C := R_Mo) (T := T_Mo) (N := 19) (v := .ref (aw_m ad 6)) hx hb hG in_Mo hown hK hP 67 he173 rfl 6 (by decide) (hG _ gw_9_31) (fun _ h => h) rfl d_Mo_feedByte_192 ?_
        clear he173
        refine lv_iload_n hx hb d_Mo_feedByte_195 rfl (lv_at hl 3 rfl) ?_
        obtain ⟨hsd176, he175⟩ := zr_M6 hSh
        refine aw_ild hx hb hK hP 73 0 he175 rfl (k := j) (by omega) (by decide) d_Mo_feedByte_196 ?_
        clear he175
        refine aw_ti (y := nI (zM j).2) (hsd176 _ (by omega)) ?_
        have hm := hSh.2.2.2.2.2 j (by omega)
        refine lv_iconst (v := nI 4) hx hb d_Mo_feedByte_197 (by decide +kernel) ?_
        refine lv_icmp_ne (tgt := 221) hx hb d_Mo_feedByte_198 (by decide) (fun _ => ?_) (fun h => absurd h (show ¬ nI ((zM j).2) = nI 4 from fun h9 => absurd ((nI_eq (by omega) (by omega)).mp h9) (by omega)))
        refine lv_aload_n hx hb d_Mo_feedByte_221 rfl (lv_at hl 2 rfl) ?_
        obtain ⟨hsd178, he177⟩ := zr_M0 hSh
        refine va_get (C := R_Mo) (T := T_Mo) (N := 19) (v := .ref (aw_m ad 8)) hx hb hG in_Mo hown hK hP 67 he177 rfl 8 (by decide) (hG _ gw_9_33) (fun _ h => h) rfl d_Mo_feedByte_222 ?_
        clear he177
        refine lv_iload_n hx hb d_Mo_feedByte_225 rfl (lv_at hl 3 rfl) ?_
        have he179 := zr_M8 hSh
        refine aw_lld hx hb hK hP 75 1 he179 rfl (k := j) (by omega) (by decide) d_Mo_feedByte_226 ?_
        clear he179
        refine ag_topl (fun y180 ey180 => ?_)
        have he181 := zr_M8 hSh
        refine ag_lst hx hb hK hP hD hS 75 1 he181 rfl (k := j) (by omega) (by decide) d_Mo_feedByte_227 (zw_L8w hSh j y180) ?_
        clear hP hD hSh hS he181
        intro H locs L hP hD hSh hS
        obtain ⟨zL182, ezL182⟩ : ∃ z : Nat → Nat → Int64, az_vl zL138 8 j y180 = z := ⟨_, rfl⟩
        rw [ezL182] at hSh
        have gzI : zI170 = v_Mo_feedByteV_zI zM zI zL j kc bk k := by subst ezL182 ey180 ezI170 ex168 ex167 ex166 ezI160 ex158 ex157 ex156 ey155 ex154 ex153 ex152 ey146 ezL138 ey136 ey134 ex83 ex4; unfold v_Mo_feedByteV_zI; rw [if_neg hb9, if_pos hb14, if_pos hb84]
        have gzL : zL182 = v_Mo_feedByteV_zL zM zI zL j kc bk k := by subst ezL182 ey180 ezI170 ex168 ex167 ex166 ezI160 ex158 ex157 ex156 ey155 ex154 ex153 ex152 ey146 ezL138 ey136 ey134 ex83 ex4; unfold v_Mo_feedByteV_zL; rw [if_neg hb9, if_pos hb14, if_pos hb84]
        have hSh : az_Sh g ad zG zO zX zY zA zB zM (v_Mo_feedByteV_zI zM zI zL j kc bk k) (v_Mo_feedByteV_zL zM zI zL j kc bk k) (nI kc) zN zF zQ L := by rw [← gzI, ← gzL]; exact hSh
        exact W.vret hx hb hr (fun t ht hW => ⟨⟨(), rfl, trivial, ag_Hr ht hP hD hSh⟩, hS.F ht⟩) hS.2.2 d_Mo_feedByte_228
  · have nhb9 : (zM j).2 = 2 := (nI_eq (by omega) (by omega)).mp hb9
    refine lv_iload hx hb d_Mo_feedByte_18 (lv_at hl 0 rfl) ?_
    refine lv_aload_n hx hb d_Mo_feedByte_20 rfl (lv_at hl 1 rfl) ?_
    refine lv_aload_n hx hb d_Mo_feedByte_21 rfl (lv_at hl 1 rfl) ?_
    obtain ⟨hsd184, he183⟩ := zr_M0 hSh
    refine va_get (C := R_Mo) (T := T_Mo) (N := 19) (v := .ref (aw_m ad 8)) hx hb hG in_Mo hown hK hP 67 he183 rfl 8 (by decide) (hG _ gw_9_33) (fun _ h => h) rfl d_Mo_feedByte_22 ?_
    clear he183
    refine lv_iload_n hx hb d_Mo_feedByte_25 rfl (lv_at hl 2 rfl) ?_
    have he185 := zr_M8 hSh
    refine aw_lld hx hb hK hP 75 1 he185 rfl (k := j) (by omega) (by decide) d_Mo_feedByte_26 ?_
    clear he185
    refine ag_topl (fun y186 ey186 => ?_)
    obtain ⟨_, he187⟩ := zr_M0 hSh
    refine va_calll (va_runV (As := [.long y186]) (rest := [.int x4]) ⟨hx, hb, hml, hown, hG⟩ (k_Mo_onJV l D g ad N0 zG zO zX zY zA zB zM zI zL zN zF zQ kc y186 hkc) (aw_wV 1 hG gw_12_4 gw_12_2 gw_0_10 gw_12_3 gw_p_18 rfl rfl hd_Mo_on ⟨Nat.le_of_ble_eq_true rfl, Nat.le_of_ble_eq_true rfl⟩) (ag_qV (va_recv hK hP rfl he187) hP hD hSh hU hS) rfl rfl hl.1 rfl (lv_room (Nat.le_of_ble_eq_true rfl)) d_Mo_feedByte_27 ⟨Nat.le_of_ble_eq_true rfl, Nat.le_of_ble_eq_true rfl⟩) hS (fun _ _ h => h) (fun _ h => h) ?_
    clear hP hD hSh hS he187
    intro y188 u8 t8 H locs ht _ ey188 hB _ _ hS
    obtain ⟨L, hP, hD, hSh⟩ := hB
    rw [ht] at hP
    clear ht
    have ey188 := ey188.symm
    refine lv_bipush (v := nI 56) hx hb d_Mo_feedByte_30 (by decide +kernel) ?_
    refine lv_lushr hx hb d_Mo_feedByte_32 rfl ?_
    refine ag_topl (fun y189 ey189 => ?_)
    refine lv_l2i hx hb d_Mo_feedByte_33 rfl ?_
    refine ag_topi (fun x190 ex190 => ?_)
    refine lv_ixor hx hb d_Mo_feedByte_34 ?_
    refine ag_topi (fun x191 ex191 => ?_)
    refine lv_istore hx hb d_Mo_feedByte_35 hl (by decide) rfl (fun ls hl => ?_)
    have hl : lv_has ls 7 [(5, .int x191), (4, .int x4), (0, .ref (aw_m ad 0)), (1, .int (nI j)), (2, .int bk), (3, .int (nI k))] := hl
    refine lv_aload_n hx hb d_Mo_feedByte_37 rfl (lv_at hl 2 rfl) ?_
    obtain ⟨hsd193, he192⟩ := zr_M0 hSh
    refine va_get (C := R_Mo) (T := T_Mo) (N := 19) (v := .ref (aw_m ad 8)) hx hb hG in_Mo hown hK hP 67 he192 rfl 8 (by decide) (hG _ gw_9_33) (fun _ h => h) rfl d_Mo_feedByte_38 ?_
    clear he192
    refine lv_iload_n hx hb d_Mo_feedByte_41 rfl (lv_at hl 3 rfl) ?_
    refine lv_aload_n hx hb d_Mo_feedByte_42 rfl (lv_at hl 2 rfl) ?_
    obtain ⟨hsd195, he194⟩ := zr_M0 hSh
    refine va_get (C := R_Mo) (T := T_Mo) (N := 19) (v := .ref (aw_m ad 8)) hx hb hG in_Mo hown hK hP 67 he194 rfl 8 (by decide) (hG _ gw_9_33) (fun _ h => h) rfl d_Mo_feedByte_43 ?_
    clear he194
    refine lv_iload_n hx hb d_Mo_feedByte_46 rfl (lv_at hl 3 rfl) ?_
    have he196 := zr_M8 hSh
    refine aw_lld hx hb hK hP 75 1 he196 rfl (k := j) (by omega) (by decide) d_Mo_feedByte_47 ?_
    clear he196
    refine ag_topl (fun y197 ey197 => ?_)
    refine lv_bipush (v := nI 8) hx hb d_Mo_feedByte_48 (by decide +kernel) ?_
    refine lv_lshl hx hb d_Mo_feedByte_50 rfl ?_
    refine ag_topl (fun y198 ey198 => ?_)
    refine lv_iload_n hx hb d_Mo_feedByte_51 rfl (lv_at hl 4 rfl) ?_
    refine lv_if_eq (tgt := 60) hx hb d_Mo_feedByte_52 (by decide) (fun hb199 => ?_) (fun hb199 => ?_)
    · refine lv_iload hx hb d_Mo_feedByte_60 (lv_at hl 0 rfl) ?_
      refine lv_i2l hx hb d_Mo_feedByte_62 rfl ?_
      refine ag_topl (fun y200 ey200 => ?_)
      refine lv_lor hx hb d_Mo_feedByte_63 ?_
      refine ag_topl (fun y201 ey201 => ?_)
      have he202 := zr_M8 hSh
      refine ag_lst hx hb hK hP hD hS 75 1 he202 rfl (k := j) (by omega) (by decide) d_Mo_feedByte_64 (zw_L8w hSh j y201) ?_
      clear hP hD hSh hS he202
      intro H locs L hP hD hSh hS
      obtain ⟨zL203, ezL203⟩ : ∃ z : Nat → Nat → Int64, az_vl zL 8 j y201 = z := ⟨_, rfl⟩
      rw [ezL203] at hSh
      refine lv_aload_n hx hb d_Mo_feedByte_65 rfl (lv_at hl 2 rfl) ?_
      obtain ⟨hsd205, he204⟩ := zr_M0 hSh
      refine va_get (C := R_Mo) (T := T_Mo) (N := 19) (v := .ref (aw_m ad 1)) hx hb hG in_Mo hown hK hP 67 he204 rfl 1 (by decide) (hG _ gw_9_26) (fun _ h => h) rfl d_Mo_feedByte_66 ?_
      clear he204
      refine lv_iload_n hx hb d_Mo_feedByte_69 rfl (lv_at hl 5 rfl) ?_
      refine lv_iload hx hb d_Mo_feedByte_70 (lv_at hl 0 rfl) ?_
      have he206 := zr_M1 hSh
      refine ag_ist hx hb hK hP hD hS 68 0 he206 rfl (k := k) (by omega) (by decide) d_Mo_feedByte_72 (zw_I1w hSh k x191) ?_
      clear hP hD hSh hS he206
      intro H locs L hP hD hSh hS
      obtain ⟨zI207, ezI207⟩ : ∃ z : Nat → Nat → Int32, az_v zI 1 k x191 = z := ⟨_, rfl⟩
      rw [ezI207] at hSh
      have gzI : zI207 = v_Mo_feedByteV_zI zM zI zL j kc bk k := by subst ezI207 ezL203 ey201 ey200 ey198 ey197 ex191 ex190 ey189 ey188 ey186 ex4; unfold v_Mo_feedByteV_zI; rw [if_pos hb9, if_pos hb199]
      have gzL : zL203 = v_Mo_feedByteV_zL zM zI zL j kc bk k := by subst ezI207 ezL203 ey201 ey200 ey198 ey197 ex191 ex190 ey189 ey188 ey186 ex4; unfold v_Mo_feedByteV_zL; rw [if_pos hb9, if_pos hb199]
      have hSh : az_Sh g ad zG zO zX zY zA zB zM (v_Mo_feedByteV_zI zM zI zL j kc bk k) (v_Mo_feedByteV_zL zM zI zL j kc bk k) (nI kc) zN zF zQ L := by rw [← gzI, ← gzL]; exact hSh
      exact W.vret hx hb hr (fun t ht hW => ⟨⟨(), rfl, trivial, ag_Hr ht hP hD hSh⟩, hS.F ht⟩) hS.2.2 d_Mo_feedByte_73
    · refine lv_iload hx hb d_Mo_feedByte_55 (lv_at hl 1 rfl) ?_
      refine lv_goto (tgt := 62) hx hb d_Mo_feedByte_57 (by decide) ?_
      refine lv_i2l hx hb d_Mo_feedByte_62 rfl ?_
      refine ag_topl (fun y208 ey208 => ?_)
      refine lv_lor hx hb d_Mo_feedByte_63 ?_
      refine ag_topl (fun y209 ey209 => ?_)
      have he210 := zr_M8 hSh
      refine ag_lst hx hb hK hP hD hS 75 1 he210 rfl (k := j) (by omega) (by decide) d_Mo_feedByte_64 (zw_L8w hSh j y209) ?_
      clear hP hD hSh hS he210
      intro H locs L hP hD hSh hS
      obtain ⟨zL211, ezL211⟩ : ∃ z : Nat → Nat → Int64, az_vl zL 8 j y209 = z := ⟨_, rfl⟩
      rw [ezL211] at hSh
      refine lv_aload_n hx hb d_Mo_feedByte_65 rfl (lv_at hl 2 rfl) ?_
      obtain ⟨hsd213, he212⟩ := zr_M0 hSh
      refine va_get (C := R_Mo) (T := T_Mo) (N := 19) (v := .ref (aw_m ad 1)) hx hb hG in_Mo hown hK hP 67 he212 rfl 1 (by decide) (hG _ gw_9_26) (fun _ h => h) rfl d_Mo_feedByte_66 ?_
      clear he212
      refine lv_iload_n hx hb d_Mo_feedByte_69 rfl (lv_at hl 5 rfl) ?_
      refine lv_iload hx hb d_Mo_feedByte_70 (lv_at hl 0 rfl) ?_
      have he214 := zr_M1 hSh
      refine ag_ist hx hb hK hP hD hS 68 0 he214 rfl (k := k) (by omega) (by decide) d_Mo_feedByte_72 (zw_I1w hSh k x191) ?_
      clear hP hD hSh hS he214
      intro H locs L hP hD hSh hS
      obtain ⟨zI215, ezI215⟩ : ∃ z : Nat → Nat → Int32, az_v zI 1 k x191 = z := ⟨_, rfl⟩
      rw [ezI215] at hSh
      have gzI : zI215 = v_Mo_feedByteV_zI zM zI zL j kc bk k := by subst ezI215 ezL211 ey209 ey208 ey198 ey197 ex191 ex190 ey189 ey188 ey186 ex4; unfold v_Mo_feedByteV_zI; rw [if_pos hb9, if_neg hb199]
      have gzL : zL211 = v_Mo_feedByteV_zL zM zI zL j kc bk k := by subst ezI215 ezL211 ey209 ey208 ey198 ey197 ex191 ex190 ey189 ey188 ey186 ex4; unfold v_Mo_feedByteV_zL; rw [if_pos hb9, if_neg hb199]
      have hSh : az_Sh g ad zG zO zX zY zA zB zM (v_Mo_feedByteV_zI zM zI zL j kc bk k) (v_Mo_feedByteV_zL zM zI zL j kc bk k) (nI kc) zN zF zQ L := by rw [← gzI, ← gzL]; exact hSh
      exact W.vret hx hb hr (fun t ht hW => ⟨⟨(), rfl, trivial, ag_Hr ht hP hD hSh⟩, hS.F ht⟩) hS.2.2 d_Mo_feedByte_73
