abbrev ws_Ru_choose1 : List Cond := Cond.code y_Ru_choose b_Ru_choose 4 none :: aw_G
abbrev rm_Ru_choose1 : Room := { frames := 1, cells := 0, slots := 0, locals := 21 }
set_option maxHeartbeats 4000000 in
set_option maxRecDepth 100000 in
theorem k_Ru_choose1 (l : Launch) (D : va_G) (g : Nat → ClassId) (ad : Nat → Nat) (G M : Nat → Nat × Nat) (F : Int32) (N0 : Nat) (j : Nat) (k : Nat) (hj : j < 4) (hk : k < 5) (hs : (G j).1 = 0) : Met l y_Ru_choose ws_Ru_choose1 rm_Ru_choose1 (va_Pc ([.ref (aw_r ad 0), .int (nI j), .int (nI k)] : List Value) (aw_B D g ad G M F N0)) (va_Qv (fun (_ : Unit) => True) (fun (_ : Unit) t => aw_H D g ad (aw_g1 G j 1) M F N0 t.heap) (aw_Z N0)) 0 0 (aw_Z N0) := by
  refine Met.ofW (cc := b_Ru_choose) (maxL := 4) (ret := none) (by decide) rfl ?_
  intro p e s m args below meth c s₁ B hml hv
  obtain ⟨rfl, ⟨L, hP, hD, hSh⟩, hU⟩ := hv
  have hx := B.exec
  have hb := B.bytes
  have hr := B.returns
  have hG : ∀ w ∈ aw_G, w.before _ s = true := fun w h => atoms_spec (ws := ws_Ru_choose1) B.pre w (List.mem_cons_of_mem _ h)
  have hown : s.vm.findClass "RuleCiphers" = some m.cls := findClass_of_methodNamed B.named
  have hlocks := B.notSynchronized
  have hE := hU.1
  have hK := hE.1
  have hN := hE.2.1
  have hS : va_S (aw_Z N0) s.heap s.heap [] := va_S.rf
  have hl := lv_entry ([.ref (aw_r ad 0), .int (nI j), .int (nI k)] : List Value) (n := 4) (Nat.le_of_ble_eq_true rfl)
  rw [lg_entry_eq]
  generalize (lg_sl ([.ref (aw_r ad 0), .int (nI j), .int (nI k)] : List Value) ++ List.replicate (4 - (lg_sl ([.ref (aw_r ad 0), .int (nI j), .int (nI k)] : List Value)).length) Slot.unset).toArray = ls at hl ⊢
  have hl : lv_has ls 4 [(0, .ref (aw_r ad 0)), (1, .int (nI j)), (2, .int (nI k))] := hl
  refine lv_aload_n hx hb d_Ru_choose_0 rfl (lv_at hl 0 rfl) ?_
  refine lv_iload_n hx hb d_Ru_choose_1 rfl (lv_at hl 1 rfl) ?_
  have he1 := rd_R0 hSh
  refine va_callr (va_runV (As := [.int (nI j)]) (rest := []) ⟨hx, hb, hml, hown, hG⟩ (k_Ru_contextAt1 l D g ad G M F N0 j hj) (aw_wV 1 hG gw_2_47 gw_2_45 gw_0_1 gw_2_46 gw_p_0 rfl rfl hd_Ru_contextAt ⟨Nat.le_of_ble_eq_true rfl, Nat.le_of_ble_eq_true rfl⟩) (aw_qV (va_recv hK hP rfl he1) hP hD hSh hU hS) rfl rfl hl.1 rfl (lv_room (Nat.le_of_ble_eq_true rfl)) d_Ru_choose_2 ⟨Nat.le_of_ble_eq_true rfl, Nat.le_of_ble_eq_true rfl⟩) hS (fun _ _ h => h) (fun _ h => h) (fun u8 q2 t8 H locs ht _ _ hB _ _ hS => ?_)
  obtain ⟨eq2, hB⟩ := hB
  obtain ⟨L, hP, hD, hSh⟩ := hB
  rw [ht] at hP
  clear ht
  subst eq2
  refine lv_astore_n hx hb d_Ru_choose_5 rfl hl (by decide) rfl (fun ls hl => ?_)
  have hl : lv_has ls 4 [(3, .ref (aw_c ad j 0)), (0, .ref (aw_r ad 0)), (1, .int (nI j)), (2, .int (nI k))] := hl
  refine lv_iload_n hx hb d_Ru_choose_6 rfl (lv_at hl 3 rfl) ?_
  refine lv_if_lt (tgt := 15) hx hb d_Ru_choose_7 (by decide) (fun h => absurd h (show ¬ nI k < nI 0 from fun h9 => absurd ((nI_ltI (by omega) (by omega)).mp h9) (by omega))) (fun _ => ?_)
  refine lv_iload_n hx hb d_Ru_choose_10 rfl (lv_at hl 3 rfl) ?_
  refine lv_iconst (v := nI 5) hx hb d_Ru_choose_11 (by decide +kernel) ?_
  refine lv_icmp_lt (tgt := 25) hx hb d_Ru_choose_12 (by decide) (fun _ => ?_) (fun h => absurd (show nI k < nI 5 from (nI_ltI (by omega) (by omega)).mpr (by omega)) h)
  refine lv_aload_n hx hb d_Ru_choose_25 rfl (lv_at hl 0 rfl) ?_
  obtain ⟨o4, y5, y6, y7, x8, x9, ho10, he3⟩ := rd_C0 hSh hj
  have hg := hSh.2.2.2.2.1 j hj
  refine va_get (C := R_Cx) (T := T_Cx) (N := 10) (v := .int (nI ((G j).1))) hx hb hG in_Cx hown hK hP (3 + 16 * j + 0) he3 rfl 2 (by decide) (hG _ gw_1_57) (fun _ h => h) rfl d_Ru_choose_26 ?_
  refine lv_if_eq (tgt := 42) hx hb d_Ru_choose_29 (by decide) (fun _ => ?_) (fun h => absurd (show nI ((G j).1) = nI 0 from (nI_eq (by omega) (by omega)).mpr (by omega)) h)
  refine lv_aload_n hx hb d_Ru_choose_42 rfl (lv_at hl 0 rfl) ?_
  refine lv_iload_n hx hb d_Ru_choose_43 rfl (lv_at hl 3 rfl) ?_
  obtain ⟨_, _, _, _, _, _, _, he11⟩ := rd_C0 hSh hj
  refine va_callv (va_runV (As := [.int (nI k)]) (rest := []) ⟨hx, hb, hml, hown, hG⟩ (k_Cx_chooseCipher l D g ad G M F N0 j k hj hk) (aw_wV 1 hG gw_4_16 gw_4_13 gw_0_2 gw_4_14 gw_4_15 rfl rfl hd_Cx_chooseCipher ⟨Nat.le_of_ble_eq_true rfl, Nat.le_of_ble_eq_true rfl⟩) (aw_qV (va_recv hK hP rfl he11) hP hD hSh hU hS) rfl rfl hl.1 rfl (lv_room (Nat.le_of_ble_eq_true rfl)) d_Ru_choose_44 ⟨Nat.le_of_ble_eq_true rfl, Nat.le_of_ble_eq_true rfl⟩) hS (fun _ _ h => h) (fun _ h => h) (fun u8 t8 H locs ht _ _ hB _ _ hS => ?_)
  obtain ⟨L, hP, hD, hSh⟩ := hB
  rw [ht] at hP
  clear ht
  exact W.vret hx hb hr (fun t ht hW => ⟨⟨(), rfl, trivial, aw_Hr ht hP hD hSh⟩, hS.F ht⟩) hS.2.2 d_Ru_choose_47
abbrev ws_Ru_chooseXc : List Cond := Cond.code y_Ru_choose b_Ru_choose 4 none :: aw_G
abbrev rm_Ru_chooseXc : Room := { frames := 7, cells := 1, slots := 6, locals := 111 }
set_option maxHeartbeats 4000000 in
set_option maxRecDepth 100000 in
theorem k_Ru_chooseXc (l : Launch) (hst : l.stackTraces = false) (D : va_G) (g : Nat → ClassId) (ad : Nat → Nat) (G M : Nat → Nat × Nat) (F : Int32) (N0 : Nat) (c0 : Int32) (k0 : Int32) (hc : c0 < 0 ∨ (¬ c0 < 0 ∧ ¬ c0 < nI 4)) : vx_Met l y_Ru_choose ws_Ru_chooseXc rm_Ru_chooseXc (va_Pc ([.ref (aw_r ad 0), .int c0, .int k0] : List Value) (aw_B D g ad G M F N0)) (va_Qv (fun (_ : Unit) => False) (fun (_ : Unit) _ => True) (aw_Z N0)) (vx_X (fun (_ : Unit) => True) (fun E (_ : Unit) t => E = "java/lang/IndexOutOfBoundsException" ∧ aw_H D g ad G M F N0 t.heap) (aw_Z N0)) 1 6 (aw_Z N0) := by
  refine vx_ofW (cc := b_Ru_choose) (maxL := 4) (ret := none) (by decide) rfl ?_
  intro p e s m args below meth c s₁ B hml hex hv
  obtain ⟨rfl, ⟨L, hP, hD, hSh⟩, hU⟩ := hv
  have hx := B.exec
  have hb := B.bytes
  have hr := B.returns
  have hG : ∀ w ∈ aw_G, w.before _ s = true := fun w h => atoms_spec (ws := ws_Ru_chooseXc) B.pre w (List.mem_cons_of_mem _ h)
  have hown : s.vm.findClass "RuleCiphers" = some m.cls := findClass_of_methodNamed B.named
  have hlocks := B.notSynchronized
  have hE := hU.1
  have hK := hE.1
  have hN := hE.2.1
  have hS : va_S (aw_Z N0) s.heap s.heap [] := va_S.rf
  have hl := lv_entry ([.ref (aw_r ad 0), .int c0, .int k0] : List Value) (n := 4) (Nat.le_of_ble_eq_true rfl)
  rw [lg_entry_eq]
  generalize (lg_sl ([.ref (aw_r ad 0), .int c0, .int k0] : List Value) ++ List.replicate (4 - (lg_sl ([.ref (aw_r ad 0), .int c0, .int k0] : List Value)).length) Slot.unset).toArray = ls at hl ⊢
  have hl : lv_has ls 4 [(0, .ref (aw_r ad 0)), (1, .int c0), (2, .int k0)] := hl
  refine lv_aload_n hx hb d_Ru_choose_0 rfl (lv_at hl 0 rfl) ?_
  refine lv_iload_n hx hb d_Ru_choose_1 rfl (lv_at hl 1 rfl) ?_
  have he1 := rd_R0 hSh
  refine vx_callv (vx_runV (As := [.int c0]) (rest := []) ⟨hx, hb, hml, hown, hG⟩ (k_Ru_contextAtX l hst D g ad G M F N0 c0 hc) (aw_wV 1 hG gw_2_47 gw_2_45 gw_0_1 gw_2_46 gw_p_0 rfl rfl hd_Ru_contextAt ⟨Nat.le_of_ble_eq_true rfl, Nat.le_of_ble_eq_true rfl⟩) (aw_qV (va_recv hK hP rfl he1) hP hD hSh hU hS) rfl rfl hl.1 rfl (lv_room (Nat.le_of_ble_eq_true rfl)) d_Ru_choose_2 ⟨Nat.le_of_ble_eq_true rfl, Nat.le_of_ble_eq_true rfl⟩) hS (fun _ _ h => h) (fun _ h => h) (fun _ _ h => h) (fun E ce q9 u t H locs ht _ _ hBX _ _ hS hce hcv hcl => ?_) (fun u t H locs _ _ hF _ _ _ _ => hF.elim)
  obtain ⟨rfl, L, hP, hD, hSh⟩ := hBX
  rw [ht] at hP
  exact vx_out (fun x h => (hex x h).elim) hlocks hce hcv hcl (fun t9 ht9 _ => ⟨(), trivial, ⟨rfl, aw_Hr ht9 hP hD hSh⟩, hS.F ht9⟩) hS.2.2 (Nat.le_of_ble_eq_true rfl) (Nat.le_of_ble_eq_true rfl)
abbrev ws_Ru_chooseXa : List Cond := Cond.code y_Ru_choose b_Ru_choose 4 none :: aw_G
abbrev rm_Ru_chooseXa : Room := { frames := 6, cells := 1, slots := 6, locals := 90 }
set_option maxHeartbeats 4000000 in
set_option maxRecDepth 100000 in
theorem k_Ru_chooseXa (l : Launch) (hst : l.stackTraces = false) (D : va_G) (g : Nat → ClassId) (ad : Nat → Nat) (G M : Nat → Nat × Nat) (F : Int32) (N0 : Nat) (j : Nat) (k0 : Int32) (hj : j < 4) (hk : k0 < 0 ∨ (¬ k0 < 0 ∧ ¬ k0 < nI 5)) : vx_Met l y_Ru_choose ws_Ru_chooseXa rm_Ru_chooseXa (va_Pc ([.ref (aw_r ad 0), .int (nI j), .int k0] : List Value) (aw_B D g ad G M F N0)) (va_Qv (fun (_ : Unit) => False) (fun (_ : Unit) _ => True) (aw_Z N0)) (vx_X (fun (_ : Unit) => True) (fun E (_ : Unit) t => E = "java/lang/IllegalArgumentException" ∧ aw_H D g ad G M F N0 t.heap) (aw_Z N0)) 1 6 (aw_Z N0) := by
  refine vx_ofW (cc := b_Ru_choose) (maxL := 4) (ret := none) (by decide) rfl ?_
  intro p e s m args below meth c s₁ B hml hex hv
  obtain ⟨rfl, ⟨L, hP, hD, hSh⟩, hU⟩ := hv
  have hx := B.exec
  have hb := B.bytes
  have hr := B.returns
  have hG : ∀ w ∈ aw_G, w.before _ s = true := fun w h => atoms_spec (ws := ws_Ru_chooseXa) B.pre w (List.mem_cons_of_mem _ h)
  have hown : s.vm.findClass "RuleCiphers" = some m.cls := findClass_of_methodNamed B.named
  have hlocks := B.notSynchronized
  have hE := hU.1
  have hK := hE.1
  have hN := hE.2.1
  have hS : va_S (aw_Z N0) s.heap s.heap [] := va_S.rf
  have hl := lv_entry ([.ref (aw_r ad 0), .int (nI j), .int k0] : List Value) (n := 4) (Nat.le_of_ble_eq_true rfl)
  rw [lg_entry_eq]
  generalize (lg_sl ([.ref (aw_r ad 0), .int (nI j), .int k0] : List Value) ++ List.replicate (4 - (lg_sl ([.ref (aw_r ad 0), .int (nI j), .int k0] : List Value)).length) Slot.unset).toArray = ls at hl ⊢
  have hl : lv_has ls 4 [(0, .ref (aw_r ad 0)), (1, .int (nI j)), (2, .int k0)] := hl
  rcases hk with hk | hk
  · refine lv_aload_n hx hb d_Ru_choose_0 rfl (lv_at hl 0 rfl) ?_
    refine lv_iload_n hx hb d_Ru_choose_1 rfl (lv_at hl 1 rfl) ?_
    have he1 := rd_R0 hSh
    refine va_callr (va_runV (As := [.int (nI j)]) (rest := []) ⟨hx, hb, hml, hown, hG⟩ (k_Ru_contextAt1 l D g ad G M F N0 j hj) (aw_wV 1 hG gw_2_47 gw_2_45 gw_0_1 gw_2_46 gw_p_0 rfl rfl hd_Ru_contextAt ⟨Nat.le_of_ble_eq_true rfl, Nat.le_of_ble_eq_true rfl⟩) (aw_qV (va_recv hK hP rfl he1) hP hD hSh hU hS) rfl rfl hl.1 rfl (lv_room (Nat.le_of_ble_eq_true rfl)) d_Ru_choose_2 ⟨Nat.le_of_ble_eq_true rfl, Nat.le_of_ble_eq_true rfl⟩) hS (fun _ _ h => h) (fun _ h => h) (fun u8 q2 t8 H locs ht _ _ hB _ _ hS => ?_)
    obtain ⟨eq2, hB⟩ := hB
    obtain ⟨L, hP, hD, hSh⟩ := hB
    rw [ht] at hP
    clear ht
    subst eq2
    refine lv_astore_n hx hb d_Ru_choose_5 rfl hl (by decide) rfl (fun ls hl => ?_)
    have hl : lv_has ls 4 [(3, .ref (aw_c ad j 0)), (0, .ref (aw_r ad 0)), (1, .int (nI j)), (2, .int k0)] := hl
    refine lv_iload_n hx hb d_Ru_choose_6 rfl (lv_at hl 3 rfl) ?_
    refine lv_if_lt (tgt := 15) hx hb d_Ru_choose_7 (by decide) (fun _ => ?_) (fun h => absurd hk h)
    obtain ⟨sa3, hsa3⟩ := hU.2.1.2.2 (26, "there is no such cipher") (by decide)
    exact aw_thr hx hb hst (names := ["java/lang/RuntimeException", "java/lang/Exception"]) hown (by decide +kernel) (by decide +kernel) (hG _ gw_3_45) (hG _ gw_0_15) hsa3 (aw_hat_Ru_28 hG hE) (by decide +kernel) hU hP hD hSh hS (by rw [hml]; exact hl.1) d_Ru_choose_15 d_Ru_choose_18 d_Ru_choose_19 d_Ru_choose_21 d_Ru_choose_24 (fun x h => (hex x h).elim) (by decide) (Nat.le_of_ble_eq_true rfl) (Nat.le_of_ble_eq_true rfl) (Nat.le_of_ble_eq_true rfl) hlocks (Nat.le_of_ble_eq_true rfl) (Nat.le_of_ble_eq_true rfl)
  · refine lv_aload_n hx hb d_Ru_choose_0 rfl (lv_at hl 0 rfl) ?_
    refine lv_iload_n hx hb d_Ru_choose_1 rfl (lv_at hl 1 rfl) ?_
    have he4 := rd_R0 hSh
    refine va_callr (va_runV (As := [.int (nI j)]) (rest := []) ⟨hx, hb, hml, hown, hG⟩ (k_Ru_contextAt1 l D g ad G M F N0 j hj) (aw_wV 1 hG gw_2_47 gw_2_45 gw_0_1 gw_2_46 gw_p_0 rfl rfl hd_Ru_contextAt ⟨Nat.le_of_ble_eq_true rfl, Nat.le_of_ble_eq_true rfl⟩) (aw_qV (va_recv hK hP rfl he4) hP hD hSh hU hS) rfl rfl hl.1 rfl (lv_room (Nat.le_of_ble_eq_true rfl)) d_Ru_choose_2 ⟨Nat.le_of_ble_eq_true rfl, Nat.le_of_ble_eq_true rfl⟩) hS (fun _ _ h => h) (fun _ h => h) (fun u8 q5 t8 H locs ht _ _ hB _ _ hS => ?_)
    obtain ⟨eq5, hB⟩ := hB
    obtain ⟨L, hP, hD, hSh⟩ := hB
    rw [ht] at hP
    clear ht
    subst eq5
    refine lv_astore_n hx hb d_Ru_choose_5 rfl hl (by decide) rfl (fun ls hl => ?_)
    have hl : lv_has ls 4 [(3, .ref (aw_c ad j 0)), (0, .ref (aw_r ad 0)), (1, .int (nI j)), (2, .int k0)] := hl
    refine lv_iload_n hx hb d_Ru_choose_6 rfl (lv_at hl 3 rfl) ?_
    refine lv_if_lt (tgt := 15) hx hb d_Ru_choose_7 (by decide) (fun h => absurd h hk.1) (fun _ => ?_)
    refine lv_iload_n hx hb d_Ru_choose_10 rfl (lv_at hl 3 rfl) ?_
    refine lv_iconst (v := nI 5) hx hb d_Ru_choose_11 (by decide +kernel) ?_
    refine lv_icmp_lt (tgt := 25) hx hb d_Ru_choose_12 (by decide) (fun h => absurd h hk.2) (fun _ => ?_)
    obtain ⟨sa6, hsa6⟩ := hU.2.1.2.2 (26, "there is no such cipher") (by decide)
    exact aw_thr hx hb hst (names := ["java/lang/RuntimeException", "java/lang/Exception"]) hown (by decide +kernel) (by decide +kernel) (hG _ gw_3_45) (hG _ gw_0_15) hsa6 (aw_hat_Ru_28 hG hE) (by decide +kernel) hU hP hD hSh hS (by rw [hml]; exact hl.1) d_Ru_choose_15 d_Ru_choose_18 d_Ru_choose_19 d_Ru_choose_21 d_Ru_choose_24 (fun x h => (hex x h).elim) (by decide) (Nat.le_of_ble_eq_true rfl) (Nat.le_of_ble_eq_true rfl) (Nat.le_of_ble_eq_true rfl) hlocks (Nat.le_of_ble_eq_true rfl) (Nat.le_of_ble_eq_true rfl)
abbrev ws_Ru_chooseXs : List Cond := Cond.code y_Ru_choose b_Ru_choose 4 none :: aw_G
abbrev rm_Ru_chooseXs : Room := { frames := 6, cells := 1, slots := 6, locals := 90 }
set_option maxHeartbeats 4000000 in
set_option maxRecDepth 100000 in
theorem k_Ru_chooseXs (l : Launch) (hst : l.stackTraces = false) (D : va_G) (g : Nat → ClassId) (ad : Nat → Nat) (G M : Nat → Nat × Nat) (F : Int32) (N0 : Nat) (j : Nat) (k : Nat) (hj : j < 4) (hk : k < 5) (hs : 1 ≤ (G j).1) : vx_Met l y_Ru_choose ws_Ru_chooseXs rm_Ru_chooseXs (va_Pc ([.ref (aw_r ad 0), .int (nI j), .int (nI k)] : List Value) (aw_B D g ad G M F N0)) (va_Qv (fun (_ : Unit) => False) (fun (_ : Unit) _ => True) (aw_Z N0)) (vx_X (fun (_ : Unit) => True) (fun E (_ : Unit) t => E = "java/lang/IllegalStateException" ∧ aw_H D g ad G M F N0 t.heap) (aw_Z N0)) 1 6 (aw_Z N0) := by
  refine vx_ofW (cc := b_Ru_choose) (maxL := 4) (ret := none) (by decide) rfl ?_
  intro p e s m args below meth c s₁ B hml hex hv
  obtain ⟨rfl, ⟨L, hP, hD, hSh⟩, hU⟩ := hv
  have hx := B.exec
  have hb := B.bytes
  have hr := B.returns
  have hG : ∀ w ∈ aw_G, w.before _ s = true := fun w h => atoms_spec (ws := ws_Ru_chooseXs) B.pre w (List.mem_cons_of_mem _ h)
  have hown : s.vm.findClass "RuleCiphers" = some m.cls := findClass_of_methodNamed B.named
  have hlocks := B.notSynchronized
  have hE := hU.1
  have hK := hE.1
  have hN := hE.2.1
  have hS : va_S (aw_Z N0) s.heap s.heap [] := va_S.rf
  have hl := lv_entry ([.ref (aw_r ad 0), .int (nI j), .int (nI k)] : List Value) (n := 4) (Nat.le_of_ble_eq_true rfl)
  rw [lg_entry_eq]
  generalize (lg_sl ([.ref (aw_r ad 0), .int (nI j), .int (nI k)] : List Value) ++ List.replicate (4 - (lg_sl ([.ref (aw_r ad 0), .int (nI j), .int (nI k)] : List Value)).length) Slot.unset).toArray = ls at hl ⊢
  have hl : lv_has ls 4 [(0, .ref (aw_r ad 0)), (1, .int (nI j)), (2, .int (nI k))] := hl
  refine lv_aload_n hx hb d_Ru_choose_0 rfl (lv_at hl 0 rfl) ?_
  refine lv_iload_n hx hb d_Ru_choose_1 rfl (lv_at hl 1 rfl) ?_
  have he1 := rd_R0 hSh
  refine va_callr (va_runV (As := [.int (nI j)]) (rest := []) ⟨hx, hb, hml, hown, hG⟩ (k_Ru_contextAt1 l D g ad G M F N0 j hj) (aw_wV 1 hG gw_2_47 gw_2_45 gw_0_1 gw_2_46 gw_p_0 rfl rfl hd_Ru_contextAt ⟨Nat.le_of_ble_eq_true rfl, Nat.le_of_ble_eq_true rfl⟩) (aw_qV (va_recv hK hP rfl he1) hP hD hSh hU hS) rfl rfl hl.1 rfl (lv_room (Nat.le_of_ble_eq_true rfl)) d_Ru_choose_2 ⟨Nat.le_of_ble_eq_true rfl, Nat.le_of_ble_eq_true rfl⟩) hS (fun _ _ h => h) (fun _ h => h) (fun u8 q2 t8 H locs ht _ _ hB _ _ hS => ?_)
  obtain ⟨eq2, hB⟩ := hB
  obtain ⟨L, hP, hD, hSh⟩ := hB
  rw [ht] at hP
  clear ht
  subst eq2
  refine lv_astore_n hx hb d_Ru_choose_5 rfl hl (by decide) rfl (fun ls hl => ?_)
  have hl : lv_has ls 4 [(3, .ref (aw_c ad j 0)), (0, .ref (aw_r ad 0)), (1, .int (nI j)), (2, .int (nI k))] := hl
  refine lv_iload_n hx hb d_Ru_choose_6 rfl (lv_at hl 3 rfl) ?_
  refine lv_if_lt (tgt := 15) hx hb d_Ru_choose_7 (by decide) (fun h => absurd h (show ¬ nI k < nI 0 from fun h9 => absurd ((nI_ltI (by omega) (by omega)).mp h9) (by omega))) (fun _ => ?_)
  refine lv_iload_n hx hb d_Ru_choose_10 rfl (lv_at hl 3 rfl) ?_
  refine lv_iconst (v := nI 5) hx hb d_Ru_choose_11 (by decide +kernel) ?_
  refine lv_icmp_lt (tgt := 25) hx hb d_Ru_choose_12 (by decide) (fun _ => ?_) (fun h => absurd (show nI k < nI 5 from (nI_ltI (by omega) (by omega)).mpr (by omega)) h)
  refine lv_aload_n hx hb d_Ru_choose_25 rfl (lv_at hl 0 rfl) ?_
  obtain ⟨o4, y5, y6, y7, x8, x9, ho10, he3⟩ := rd_C0 hSh hj
  have hg := hSh.2.2.2.2.1 j hj
  refine va_get (C := R_Cx) (T := T_Cx) (N := 10) (v := .int (nI ((G j).1))) hx hb hG in_Cx hown hK hP (3 + 16 * j + 0) he3 rfl 2 (by decide) (hG _ gw_1_57) (fun _ h => h) rfl d_Ru_choose_26 ?_
  refine lv_if_eq (tgt := 42) hx hb d_Ru_choose_29 (by decide) (fun h => absurd h (show ¬ nI ((G j).1) = nI 0 from fun h9 => absurd ((nI_eq (by omega) (by omega)).mp h9) (by omega))) (fun _ => ?_)
  obtain ⟨sa11, hsa11⟩ := hU.2.1.2.2 (37, "the context is not free") (by decide)
  exact aw_thr hx hb hst (names := ["java/lang/RuntimeException", "java/lang/Exception"]) hown (by decide +kernel) (by decide +kernel) (hG _ gw_3_59) (hG _ gw_0_16) hsa11 (aw_hat_Ru_39 hG hE) (by decide +kernel) hU hP hD hSh hS (by rw [hml]; exact hl.1) d_Ru_choose_32 d_Ru_choose_35 d_Ru_choose_36 d_Ru_choose_38 d_Ru_choose_41 (fun x h => (hex x h).elim) (by decide) (Nat.le_of_ble_eq_true rfl) (Nat.le_of_ble_eq_true rfl) (Nat.le_of_ble_eq_true rfl) hlocks (Nat.le_of_ble_eq_true rfl) (Nat.le_of_ble_eq_true rfl)
abbrev ws_Ru_key1 : List Cond := Cond.code y_Ru_key b_Ru_key 7 none :: aw_G
abbrev rm_Ru_key1 : Room := { frames := 4, cells := 0, slots := 0, locals := 101 }
set_option maxHeartbeats 4000000 in
set_option maxRecDepth 100000 in
theorem k_Ru_key1 (l : Launch) (D : va_G) (g : Nat → ClassId) (ad : Nat → Nat) (G M : Nat → Nat × Nat) (F : Int32) (N0 : Nat) (j : Nat) (a : Int64) (b : Int64) (hj : j < 4) (hs : 1 ≤ (G j).1) : Met l y_Ru_key ws_Ru_key1 rm_Ru_key1 (va_Pc ([.ref (aw_r ad 0), .int (nI j), .long a, .long b] : List Value) (aw_B D g ad G M F N0)) (va_Qv (fun (_ : Unit) => True) (fun (_ : Unit) t => aw_H D g ad (aw_g1 G j 2) M F N0 t.heap) (aw_Z N0)) 0 0 (aw_Z N0) := by
  refine Met.ofW (cc := b_Ru_key) (maxL := 7) (ret := none) (by decide) rfl ?_
  intro p e s m args below meth c s₁ B hml hv
  obtain ⟨rfl, ⟨L, hP, hD, hSh⟩, hU⟩ := hv
  have hx := B.exec
  have hb := B.bytes
  have hr := B.returns
  have hG : ∀ w ∈ aw_G, w.before _ s = true := fun w h => atoms_spec (ws := ws_Ru_key1) B.pre w (List.mem_cons_of_mem _ h)
  have hown : s.vm.findClass "RuleCiphers" = some m.cls := findClass_of_methodNamed B.named
  have hlocks := B.notSynchronized
  have hE := hU.1
  have hK := hE.1
  have hN := hE.2.1
  have hS : va_S (aw_Z N0) s.heap s.heap [] := va_S.rf
  have hl := lv_entry ([.ref (aw_r ad 0), .int (nI j), .long a, .long b] : List Value) (n := 7) (Nat.le_of_ble_eq_true rfl)
  rw [lg_entry_eq]
  generalize (lg_sl ([.ref (aw_r ad 0), .int (nI j), .long a, .long b] : List Value) ++ List.replicate (7 - (lg_sl ([.ref (aw_r ad 0), .int (nI j), .long a, .long b] : List Value)).length) Slot.unset).toArray = ls at hl ⊢
  have hl : lv_has ls 7 [(0, .ref (aw_r ad 0)), (1, .int (nI j)), (2, .long a), (4, .long b)] := hl
  refine lv_aload_n hx hb d_Ru_key_0 rfl (lv_at hl 0 rfl) ?_
  refine lv_iload_n hx hb d_Ru_key_1 rfl (lv_at hl 1 rfl) ?_
  have he1 := rd_R0 hSh
  refine va_callr (va_runV (As := [.int (nI j)]) (rest := []) ⟨hx, hb, hml, hown, hG⟩ (k_Ru_contextAt1 l D g ad G M F N0 j hj) (aw_wV 1 hG gw_2_47 gw_2_45 gw_0_1 gw_2_46 gw_p_0 rfl rfl hd_Ru_contextAt ⟨Nat.le_of_ble_eq_true rfl, Nat.le_of_ble_eq_true rfl⟩) (aw_qV (va_recv hK hP rfl he1) hP hD hSh hU hS) rfl rfl hl.1 rfl (lv_room (Nat.le_of_ble_eq_true rfl)) d_Ru_key_2 ⟨Nat.le_of_ble_eq_true rfl, Nat.le_of_ble_eq_true rfl⟩) hS (fun _ _ h => h) (fun _ h => h) (fun u8 q2 t8 H locs ht _ _ hB _ _ hS => ?_)
  obtain ⟨eq2, hB⟩ := hB
  obtain ⟨L, hP, hD, hSh⟩ := hB
  rw [ht] at hP
  clear ht
  subst eq2
  refine lv_astore hx hb d_Ru_key_5 hl (by decide) rfl (fun ls hl => ?_)
  have hl : lv_has ls 7 [(6, .ref (aw_c ad j 0)), (0, .ref (aw_r ad 0)), (1, .int (nI j)), (2, .long a), (4, .long b)] := hl
  refine lv_aload hx hb d_Ru_key_7 (lv_at hl 0 rfl) ?_
  obtain ⟨o4, y5, y6, y7, x8, x9, ho10, he3⟩ := rd_C0 hSh hj
  have hg := hSh.2.2.2.2.1 j hj
  refine va_get (C := R_Cx) (T := T_Cx) (N := 10) (v := .int (nI ((G j).1))) hx hb hG in_Cx hown hK hP (3 + 16 * j + 0) he3 rfl 2 (by decide) (hG _ gw_1_57) (fun _ h => h) rfl d_Ru_key_9 ?_
  refine lv_if_ne (tgt := 25) hx hb d_Ru_key_12 (by decide) (fun _ => ?_) (fun h => absurd h (show ¬ nI ((G j).1) = nI 0 from fun h9 => absurd ((nI_eq (by omega) (by omega)).mp h9) (by omega)))
  refine lv_aload hx hb d_Ru_key_25 (lv_at hl 0 rfl) ?_
  refine lv_lload_n hx hb d_Ru_key_27 rfl (lv_at hl 3 rfl) ?_
  refine lv_lload hx hb d_Ru_key_28 (lv_at hl 4 rfl) ?_
  obtain ⟨_, _, _, _, _, _, _, he11⟩ := rd_C0 hSh hj
  refine va_callv (va_runV (As := [.long a, .long b]) (rest := []) ⟨hx, hb, hml, hown, hG⟩ (k_Cx_setKey l D g ad G M F N0 j a b hj) (aw_wV 2 hG gw_4_27 gw_4_24 gw_0_2 gw_4_25 gw_4_26 rfl rfl hd_Cx_setKey ⟨Nat.le_of_ble_eq_true rfl, Nat.le_of_ble_eq_true rfl⟩) (aw_qV (va_recv hK hP rfl he11) hP hD hSh hU hS) rfl rfl hl.1 rfl (lv_room (Nat.le_of_ble_eq_true rfl)) d_Ru_key_30 ⟨Nat.le_of_ble_eq_true rfl, Nat.le_of_ble_eq_true rfl⟩) hS (fun _ _ h => h) (fun _ h => h) (fun u8 t8 H locs ht _ _ hB _ _ hS => ?_)
  obtain ⟨L, hP, hD, hSh⟩ := hB
  rw [ht] at hP
  clear ht
  exact W.vret hx hb hr (fun t ht hW => ⟨⟨(), rfl, trivial, aw_Hr ht hP hD hSh⟩, hS.F ht⟩) hS.2.2 d_Ru_key_33
abbrev ws_Ru_keyXc : List Cond := Cond.code y_Ru_key b_Ru_key 7 none :: aw_G
abbrev rm_Ru_keyXc : Room := { frames := 7, cells := 1, slots := 6, locals := 111 }
set_option maxHeartbeats 4000000 in
set_option maxRecDepth 100000 in
theorem k_Ru_keyXc (l : Launch) (hst : l.stackTraces = false) (D : va_G) (g : Nat → ClassId) (ad : Nat → Nat) (G M : Nat → Nat × Nat) (F : Int32) (N0 : Nat) (c0 : Int32) (a : Int64) (b : Int64) (hc : c0 < 0 ∨ (¬ c0 < 0 ∧ ¬ c0 < nI 4)) : vx_Met l y_Ru_key ws_Ru_keyXc rm_Ru_keyXc (va_Pc ([.ref (aw_r ad 0), .int c0, .long a, .long b] : List Value) (aw_B D g ad G M F N0)) (va_Qv (fun (_ : Unit) => False) (fun (_ : Unit) _ => True) (aw_Z N0)) (vx_X (fun (_ : Unit) => True) (fun E (_ : Unit) t => E = "java/lang/IndexOutOfBoundsException" ∧ aw_H D g ad G M F N0 t.heap) (aw_Z N0)) 1 6 (aw_Z N0) := by
  refine vx_ofW (cc := b_Ru_key) (maxL := 7) (ret := none) (by decide) rfl ?_
  intro p e s m args below meth c s₁ B hml hex hv
  obtain ⟨rfl, ⟨L, hP, hD, hSh⟩, hU⟩ := hv
  have hx := B.exec
  have hb := B.bytes
  have hr := B.returns
  have hG : ∀ w ∈ aw_G, w.before _ s = true := fun w h => atoms_spec (ws := ws_Ru_keyXc) B.pre w (List.mem_cons_of_mem _ h)
  have hown : s.vm.findClass "RuleCiphers" = some m.cls := findClass_of_methodNamed B.named
  have hlocks := B.notSynchronized
  have hE := hU.1
  have hK := hE.1
  have hN := hE.2.1
  have hS : va_S (aw_Z N0) s.heap s.heap [] := va_S.rf
  have hl := lv_entry ([.ref (aw_r ad 0), .int c0, .long a, .long b] : List Value) (n := 7) (Nat.le_of_ble_eq_true rfl)
  rw [lg_entry_eq]
  generalize (lg_sl ([.ref (aw_r ad 0), .int c0, .long a, .long b] : List Value) ++ List.replicate (7 - (lg_sl ([.ref (aw_r ad 0), .int c0, .long a, .long b] : List Value)).length) Slot.unset).toArray = ls at hl ⊢
  have hl : lv_has ls 7 [(0, .ref (aw_r ad 0)), (1, .int c0), (2, .long a), (4, .long b)] := hl
  refine lv_aload_n hx hb d_Ru_key_0 rfl (lv_at hl 0 rfl) ?_
  refine lv_iload_n hx hb d_Ru_key_1 rfl (lv_at hl 1 rfl) ?_
  have he1 := rd_R0 hSh
  refine vx_callv (vx_runV (As := [.int c0]) (rest := []) ⟨hx, hb, hml, hown, hG⟩ (k_Ru_contextAtX l hst D g ad G M F N0 c0 hc) (aw_wV 1 hG gw_2_47 gw_2_45 gw_0_1 gw_2_46 gw_p_0 rfl rfl hd_Ru_contextAt ⟨Nat.le_of_ble_eq_true rfl, Nat.le_of_ble_eq_true rfl⟩) (aw_qV (va_recv hK hP rfl he1) hP hD hSh hU hS) rfl rfl hl.1 rfl (lv_room (Nat.le_of_ble_eq_true rfl)) d_Ru_key_2 ⟨Nat.le_of_ble_eq_true rfl, Nat.le_of_ble_eq_true rfl⟩) hS (fun _ _ h => h) (fun _ h => h) (fun _ _ h => h) (fun E ce q9 u t H locs ht _ _ hBX _ _ hS hce hcv hcl => ?_) (fun u t H locs _ _ hF _ _ _ _ => hF.elim)
  obtain ⟨rfl, L, hP, hD, hSh⟩ := hBX
  rw [ht] at hP
  exact vx_out (fun x h => (hex x h).elim) hlocks hce hcv hcl (fun t9 ht9 _ => ⟨(), trivial, ⟨rfl, aw_Hr ht9 hP hD hSh⟩, hS.F ht9⟩) hS.2.2 (Nat.le_of_ble_eq_true rfl) (Nat.le_of_ble_eq_true rfl)
abbrev ws_Ru_keyXs : List Cond := Cond.code y_Ru_key b_Ru_key 7 none :: aw_G
abbrev rm_Ru_keyXs : Room := { frames := 6, cells := 1, slots := 6, locals := 90 }
set_option maxHeartbeats 4000000 in
set_option maxRecDepth 100000 in
theorem k_Ru_keyXs (l : Launch) (hst : l.stackTraces = false) (D : va_G) (g : Nat → ClassId) (ad : Nat → Nat) (G M : Nat → Nat × Nat) (F : Int32) (N0 : Nat) (j : Nat) (a : Int64) (b : Int64) (hj : j < 4) (hs : (G j).1 = 0) : vx_Met l y_Ru_key ws_Ru_keyXs rm_Ru_keyXs (va_Pc ([.ref (aw_r ad 0), .int (nI j), .long a, .long b] : List Value) (aw_B D g ad G M F N0)) (va_Qv (fun (_ : Unit) => False) (fun (_ : Unit) _ => True) (aw_Z N0)) (vx_X (fun (_ : Unit) => True) (fun E (_ : Unit) t => E = "java/lang/IllegalStateException" ∧ aw_H D g ad G M F N0 t.heap) (aw_Z N0)) 1 6 (aw_Z N0) := by
  refine vx_ofW (cc := b_Ru_key) (maxL := 7) (ret := none) (by decide) rfl ?_
  intro p e s m args below meth c s₁ B hml hex hv
  obtain ⟨rfl, ⟨L, hP, hD, hSh⟩, hU⟩ := hv
  have hx := B.exec
  have hb := B.bytes
  have hr := B.returns
  have hG : ∀ w ∈ aw_G, w.before _ s = true := fun w h => atoms_spec (ws := ws_Ru_keyXs) B.pre w (List.mem_cons_of_mem _ h)
  have hown : s.vm.findClass "RuleCiphers" = some m.cls := findClass_of_methodNamed B.named
  have hlocks := B.notSynchronized
  have hE := hU.1
  have hK := hE.1
  have hN := hE.2.1
  have hS : va_S (aw_Z N0) s.heap s.heap [] := va_S.rf
  have hl := lv_entry ([.ref (aw_r ad 0), .int (nI j), .long a, .long b] : List Value) (n := 7) (Nat.le_of_ble_eq_true rfl)
  rw [lg_entry_eq]
  generalize (lg_sl ([.ref (aw_r ad 0), .int (nI j), .long a, .long b] : List Value) ++ List.replicate (7 - (lg_sl ([.ref (aw_r ad 0), .int (nI j), .long a, .long b] : List Value)).length) Slot.unset).toArray = ls at hl ⊢
  have hl : lv_has ls 7 [(0, .ref (aw_r ad 0)), (1, .int (nI j)), (2, .long a), (4, .long b)] := hl
  refine lv_aload_n hx hb d_Ru_key_0 rfl (lv_at hl 0 rfl) ?_
  refine lv_iload_n hx hb d_Ru_key_1 rfl (lv_at hl 1 rfl) ?_
  have he1 := rd_R0 hSh
  refine va_callr (va_runV (As := [.int (nI j)]) (rest := []) ⟨hx, hb, hml, hown, hG⟩ (k_Ru_contextAt1 l D g ad G M F N0 j hj) (aw_wV 1 hG gw_2_47 gw_2_45 gw_0_1 gw_2_46 gw_p_0 rfl rfl hd_Ru_contextAt ⟨Nat.le_of_ble_eq_true rfl, Nat.le_of_ble_eq_true rfl⟩) (aw_qV (va_recv hK hP rfl he1) hP hD hSh hU hS) rfl rfl hl.1 rfl (lv_room (Nat.le_of_ble_eq_true rfl)) d_Ru_key_2 ⟨Nat.le_of_ble_eq_true rfl, Nat.le_of_ble_eq_true rfl⟩) hS (fun _ _ h => h) (fun _ h => h) (fun u8 q2 t8 H locs ht _ _ hB _ _ hS => ?_)
  obtain ⟨eq2, hB⟩ := hB
  obtain ⟨L, hP, hD, hSh⟩ := hB
  rw [ht] at hP
  clear ht
  subst eq2
  refine lv_astore hx hb d_Ru_key_5 hl (by decide) rfl (fun ls hl => ?_)
  have hl : lv_has ls 7 [(6, .ref (aw_c ad j 0)), (0, .ref (aw_r ad 0)), (1, .int (nI j)), (2, .long a), (4, .long b)] := hl
  refine lv_aload hx hb d_Ru_key_7 (lv_at hl 0 rfl) ?_
  obtain ⟨o4, y5, y6, y7, x8, x9, ho10, he3⟩ := rd_C0 hSh hj
  have hg := hSh.2.2.2.2.1 j hj
  refine va_get (C := R_Cx) (T := T_Cx) (N := 10) (v := .int (nI ((G j).1))) hx hb hG in_Cx hown hK hP (3 + 16 * j + 0) he3 rfl 2 (by decide) (hG _ gw_1_57) (fun _ h => h) rfl d_Ru_key_9 ?_
  refine lv_if_ne (tgt := 25) hx hb d_Ru_key_12 (by decide) (fun h => absurd (show nI ((G j).1) = nI 0 from (nI_eq (by omega) (by omega)).mpr (by omega)) h) (fun _ => ?_)
  obtain ⟨sa11, hsa11⟩ := hU.2.1.2.2 (44, "the context is free") (by decide)
  exact aw_thr hx hb hst (names := ["java/lang/RuntimeException", "java/lang/Exception"]) hown (by decide +kernel) (by decide +kernel) (hG _ gw_3_59) (hG _ gw_0_16) hsa11 (aw_hat_Ru_39 hG hE) (by decide +kernel) hU hP hD hSh hS (by rw [hml]; exact hl.1) d_Ru_key_15 d_Ru_key_18 d_Ru_key_19 d_Ru_key_21 d_Ru_key_24 (fun x h => (hex x h).elim) (by decide) (Nat.le_of_ble_eq_true rfl) (Nat.le_of_ble_eq_true rfl) (Nat.le_of_ble_eq_true rfl) hlocks (Nat.le_of_ble_eq_true rfl) (Nat.le_of_ble_eq_true rfl)
abbrev ws_Ru_mode1 : List Cond := Cond.code y_Ru_mode b_Ru_mode 6 none :: aw_G
abbrev rm_Ru_mode1 : Room := { frames := 2, cells := 0, slots := 0, locals := 43 }
set_option maxHeartbeats 4000000 in
set_option maxRecDepth 100000 in
theorem k_Ru_mode1 (l : Launch) (D : va_G) (g : Nat → ClassId) (ad : Nat → Nat) (G M : Nat → Nat × Nat) (F : Int32) (N0 : Nat) (j : Nat) (k : Nat) (b : Int64) (hj : j < 4) (hk : k ≤ 5) (hs : 2 ≤ (G j).1) : Met l y_Ru_mode ws_Ru_mode1 rm_Ru_mode1 (va_Pc ([.ref (aw_r ad 0), .int (nI j), .int (nI k), .long b] : List Value) (aw_B D g ad G M F N0)) (va_Qv (fun (_ : Unit) => True) (fun (_ : Unit) t => aw_H D g ad (aw_g1 (aw_g2 G j k) j 3) M F N0 t.heap) (aw_Z N0)) 0 0 (aw_Z N0) := by
  refine Met.ofW (cc := b_Ru_mode) (maxL := 6) (ret := none) (by decide) rfl ?_
  intro p e s m args below meth c s₁ B hml hv
  obtain ⟨rfl, ⟨L, hP, hD, hSh⟩, hU⟩ := hv
  have hx := B.exec
  have hb := B.bytes
  have hr := B.returns
  have hG : ∀ w ∈ aw_G, w.before _ s = true := fun w h => atoms_spec (ws := ws_Ru_mode1) B.pre w (List.mem_cons_of_mem _ h)
  have hown : s.vm.findClass "RuleCiphers" = some m.cls := findClass_of_methodNamed B.named
  have hlocks := B.notSynchronized
  have hE := hU.1
  have hK := hE.1
  have hN := hE.2.1
  have hS : va_S (aw_Z N0) s.heap s.heap [] := va_S.rf
  have hl := lv_entry ([.ref (aw_r ad 0), .int (nI j), .int (nI k), .long b] : List Value) (n := 6) (Nat.le_of_ble_eq_true rfl)
  rw [lg_entry_eq]
  generalize (lg_sl ([.ref (aw_r ad 0), .int (nI j), .int (nI k), .long b] : List Value) ++ List.replicate (6 - (lg_sl ([.ref (aw_r ad 0), .int (nI j), .int (nI k), .long b] : List Value)).length) Slot.unset).toArray = ls at hl ⊢
  have hl : lv_has ls 6 [(0, .ref (aw_r ad 0)), (1, .int (nI j)), (2, .int (nI k)), (3, .long b)] := hl
  refine lv_aload_n hx hb d_Ru_mode_0 rfl (lv_at hl 0 rfl) ?_
  refine lv_iload_n hx hb d_Ru_mode_1 rfl (lv_at hl 1 rfl) ?_
  have he1 := rd_R0 hSh
  refine va_callr (va_runV (As := [.int (nI j)]) (rest := []) ⟨hx, hb, hml, hown, hG⟩ (k_Ru_contextAt1 l D g ad G M F N0 j hj) (aw_wV 1 hG gw_2_47 gw_2_45 gw_0_1 gw_2_46 gw_p_0 rfl rfl hd_Ru_contextAt ⟨Nat.le_of_ble_eq_true rfl, Nat.le_of_ble_eq_true rfl⟩) (aw_qV (va_recv hK hP rfl he1) hP hD hSh hU hS) rfl rfl hl.1 rfl (lv_room (Nat.le_of_ble_eq_true rfl)) d_Ru_mode_2 ⟨Nat.le_of_ble_eq_true rfl, Nat.le_of_ble_eq_true rfl⟩) hS (fun _ _ h => h) (fun _ h => h) (fun u8 q2 t8 H locs ht _ _ hB _ _ hS => ?_)
  obtain ⟨eq2, hB⟩ := hB
  obtain ⟨L, hP, hD, hSh⟩ := hB
  rw [ht] at hP
  clear ht
  subst eq2
  refine lv_astore hx hb d_Ru_mode_5 hl (by decide) rfl (fun ls hl => ?_)
  have hl : lv_has ls 6 [(5, .ref (aw_c ad j 0)), (0, .ref (aw_r ad 0)), (1, .int (nI j)), (2, .int (nI k)), (3, .long b)] := hl
  refine lv_iload_n hx hb d_Ru_mode_7 rfl (lv_at hl 3 rfl) ?_
  refine lv_if_lt (tgt := 16) hx hb d_Ru_mode_8 (by decide) (fun h => absurd h (show ¬ nI k < nI 0 from fun h9 => absurd ((nI_ltI (by omega) (by omega)).mp h9) (by omega))) (fun _ => ?_)
  refine lv_iload_n hx hb d_Ru_mode_11 rfl (lv_at hl 3 rfl) ?_
  refine lv_iconst (v := nI 5) hx hb d_Ru_mode_12 (by decide +kernel) ?_
  refine lv_icmp_le (tgt := 26) hx hb d_Ru_mode_13 (by decide) (fun _ => ?_) (fun h => absurd (show nI k ≤ nI 5 from (nI_leI (by omega) (by omega)).mpr (by omega)) h)
  refine lv_aload hx hb d_Ru_mode_26 (lv_at hl 0 rfl) ?_
  refine va_callv (va_runS (As := [.ref (aw_c ad j 0)]) (rest := []) ⟨hx, hb, hml, hown, hG⟩ (k_Ru_requireKey1 l D g ad G M F N0 j hj hs) (aw_wS 1 hG gw_5_30 gw_5_28 gw_0_1 gw_5_29 rfl rfl hd_Ru_requireKey ⟨Nat.le_of_ble_eq_true rfl, Nat.le_of_ble_eq_true rfl⟩) (aw_qS hP hD hSh hU hS) rfl rfl hl.1 rfl (lv_room (Nat.le_of_ble_eq_true rfl)) d_Ru_mode_28 ⟨Nat.le_of_ble_eq_true rfl, Nat.le_of_ble_eq_true rfl⟩) hS (fun _ _ h => h) (fun _ h => h) (fun u8 t8 H locs ht _ _ hB _ _ hS => ?_)
  obtain ⟨L, hP, hD, hSh⟩ := hB
  rw [ht] at hP
  clear ht
  refine lv_aload hx hb d_Ru_mode_31 (lv_at hl 0 rfl) ?_
  refine lv_iload_n hx hb d_Ru_mode_33 rfl (lv_at hl 3 rfl) ?_
  refine lv_lload_n hx hb d_Ru_mode_34 rfl (lv_at hl 4 rfl) ?_
  obtain ⟨_, _, _, _, _, _, _, he3⟩ := rd_C0 hSh hj
  refine va_callv (va_runV (As := [.int (nI k), .long b]) (rest := []) ⟨hx, hb, hml, hown, hG⟩ (k_Cx_setMode l D g ad G M F N0 j k b hj hk) (aw_wV 2 hG gw_5_34 gw_5_31 gw_0_2 gw_5_32 gw_5_33 rfl rfl hd_Cx_setMode ⟨Nat.le_of_ble_eq_true rfl, Nat.le_of_ble_eq_true rfl⟩) (aw_qV (va_recv hK hP rfl he3) hP hD hSh hU hS) rfl rfl hl.1 rfl (lv_room (Nat.le_of_ble_eq_true rfl)) d_Ru_mode_35 ⟨Nat.le_of_ble_eq_true rfl, Nat.le_of_ble_eq_true rfl⟩) hS (fun _ _ h => h) (fun _ h => h) (fun u8 t8 H locs ht _ _ hB _ _ hS => ?_)
  obtain ⟨L, hP, hD, hSh⟩ := hB
  rw [ht] at hP
  clear ht
  exact W.vret hx hb hr (fun t ht hW => ⟨⟨(), rfl, trivial, aw_Hr ht hP hD hSh⟩, hS.F ht⟩) hS.2.2 d_Ru_mode_38
abbrev ws_Ru_modeXc : List Cond := Cond.code y_Ru_mode b_Ru_mode 6 none :: aw_G
abbrev rm_Ru_modeXc : Room := { frames := 7, cells := 1, slots := 6, locals := 111 }
set_option maxHeartbeats 4000000 in
set_option maxRecDepth 100000 in
theorem k_Ru_modeXc (l : Launch) (hst : l.stackTraces = false) (D : va_G) (g : Nat → ClassId) (ad : Nat → Nat) (G M : Nat → Nat × Nat) (F : Int32) (N0 : Nat) (c0 : Int32) (k0 : Int32) (b : Int64) (hc : c0 < 0 ∨ (¬ c0 < 0 ∧ ¬ c0 < nI 4)) : vx_Met l y_Ru_mode ws_Ru_modeXc rm_Ru_modeXc (va_Pc ([.ref (aw_r ad 0), .int c0, .int k0, .long b] : List Value) (aw_B D g ad G M F N0)) (va_Qv (fun (_ : Unit) => False) (fun (_ : Unit) _ => True) (aw_Z N0)) (vx_X (fun (_ : Unit) => True) (fun E (_ : Unit) t => E = "java/lang/IndexOutOfBoundsException" ∧ aw_H D g ad G M F N0 t.heap) (aw_Z N0)) 1 6 (aw_Z N0) := by
  refine vx_ofW (cc := b_Ru_mode) (maxL := 6) (ret := none) (by decide) rfl ?_
  intro p e s m args below meth c s₁ B hml hex hv
  obtain ⟨rfl, ⟨L, hP, hD, hSh⟩, hU⟩ := hv
  have hx := B.exec
  have hb := B.bytes
  have hr := B.returns
  have hG : ∀ w ∈ aw_G, w.before _ s = true := fun w h => atoms_spec (ws := ws_Ru_modeXc) B.pre w (List.mem_cons_of_mem _ h)
  have hown : s.vm.findClass "RuleCiphers" = some m.cls := findClass_of_methodNamed B.named
  have hlocks := B.notSynchronized
  have hE := hU.1
  have hK := hE.1
  have hN := hE.2.1
  have hS : va_S (aw_Z N0) s.heap s.heap [] := va_S.rf
  have hl := lv_entry ([.ref (aw_r ad 0), .int c0, .int k0, .long b] : List Value) (n := 6) (Nat.le_of_ble_eq_true rfl)
  rw [lg_entry_eq]
  generalize (lg_sl ([.ref (aw_r ad 0), .int c0, .int k0, .long b] : List Value) ++ List.replicate (6 - (lg_sl ([.ref (aw_r ad 0), .int c0, .int k0, .long b] : List Value)).length) Slot.unset).toArray = ls at hl ⊢
  have hl : lv_has ls 6 [(0, .ref (aw_r ad 0)), (1, .int c0), (2, .int k0), (3, .long b)] := hl
  refine lv_aload_n hx hb d_Ru_mode_0 rfl (lv_at hl 0 rfl) ?_
  refine lv_iload_n hx hb d_Ru_mode_1 rfl (lv_at hl 1 rfl) ?_
  have he1 := rd_R0 hSh
  refine vx_callv (vx_runV (As := [.int c0]) (rest := []) ⟨hx, hb, hml, hown, hG⟩ (k_Ru_contextAtX l hst D g ad G M F N0 c0 hc) (aw_wV 1 hG gw_2_47 gw_2_45 gw_0_1 gw_2_46 gw_p_0 rfl rfl hd_Ru_contextAt ⟨Nat.le_of_ble_eq_true rfl, Nat.le_of_ble_eq_true rfl⟩) (aw_qV (va_recv hK hP rfl he1) hP hD hSh hU hS) rfl rfl hl.1 rfl (lv_room (Nat.le_of_ble_eq_true rfl)) d_Ru_mode_2 ⟨Nat.le_of_ble_eq_true rfl, Nat.le_of_ble_eq_true rfl⟩) hS (fun _ _ h => h) (fun _ h => h) (fun _ _ h => h) (fun E ce q9 u t H locs ht _ _ hBX _ _ hS hce hcv hcl => ?_) (fun u t H locs _ _ hF _ _ _ _ => hF.elim)
  obtain ⟨rfl, L, hP, hD, hSh⟩ := hBX
  rw [ht] at hP
  exact vx_out (fun x h => (hex x h).elim) hlocks hce hcv hcl (fun t9 ht9 _ => ⟨(), trivial, ⟨rfl, aw_Hr ht9 hP hD hSh⟩, hS.F ht9⟩) hS.2.2 (Nat.le_of_ble_eq_true rfl) (Nat.le_of_ble_eq_true rfl)
abbrev ws_Ru_modeXa : List Cond := Cond.code y_Ru_mode b_Ru_mode 6 none :: aw_G
abbrev rm_Ru_modeXa : Room := { frames := 6, cells := 1, slots := 6, locals := 90 }
set_option maxHeartbeats 4000000 in
set_option maxRecDepth 100000 in
theorem k_Ru_modeXa (l : Launch) (hst : l.stackTraces = false) (D : va_G) (g : Nat → ClassId) (ad : Nat → Nat) (G M : Nat → Nat × Nat) (F : Int32) (N0 : Nat) (j : Nat) (k0 : Int32) (b : Int64) (hj : j < 4) (hk : k0 < 0 ∨ (¬ k0 < 0 ∧ nI 5 < k0)) : vx_Met l y_Ru_mode ws_Ru_modeXa rm_Ru_modeXa (va_Pc ([.ref (aw_r ad 0), .int (nI j), .int k0, .long b] : List Value) (aw_B D g ad G M F N0)) (va_Qv (fun (_ : Unit) => False) (fun (_ : Unit) _ => True) (aw_Z N0)) (vx_X (fun (_ : Unit) => True) (fun E (_ : Unit) t => E = "java/lang/IllegalArgumentException" ∧ aw_H D g ad G M F N0 t.heap) (aw_Z N0)) 1 6 (aw_Z N0) := by
  refine vx_ofW (cc := b_Ru_mode) (maxL := 6) (ret := none) (by decide) rfl ?_
  intro p e s m args below meth c s₁ B hml hex hv
  obtain ⟨rfl, ⟨L, hP, hD, hSh⟩, hU⟩ := hv
  have hx := B.exec
  have hb := B.bytes
  have hr := B.returns
  have hG : ∀ w ∈ aw_G, w.before _ s = true := fun w h => atoms_spec (ws := ws_Ru_modeXa) B.pre w (List.mem_cons_of_mem _ h)
  have hown : s.vm.findClass "RuleCiphers" = some m.cls := findClass_of_methodNamed B.named
  have hlocks := B.notSynchronized
  have hE := hU.1
  have hK := hE.1
  have hN := hE.2.1
  have hS : va_S (aw_Z N0) s.heap s.heap [] := va_S.rf
  have hl := lv_entry ([.ref (aw_r ad 0), .int (nI j), .int k0, .long b] : List Value) (n := 6) (Nat.le_of_ble_eq_true rfl)
  rw [lg_entry_eq]
  generalize (lg_sl ([.ref (aw_r ad 0), .int (nI j), .int k0, .long b] : List Value) ++ List.replicate (6 - (lg_sl ([.ref (aw_r ad 0), .int (nI j), .int k0, .long b] : List Value)).length) Slot.unset).toArray = ls at hl ⊢
  have hl : lv_has ls 6 [(0, .ref (aw_r ad 0)), (1, .int (nI j)), (2, .int k0), (3, .long b)] := hl
  rcases hk with hk | hk
  · refine lv_aload_n hx hb d_Ru_mode_0 rfl (lv_at hl 0 rfl) ?_
    refine lv_iload_n hx hb d_Ru_mode_1 rfl (lv_at hl 1 rfl) ?_
    have he1 := rd_R0 hSh
    refine va_callr (va_runV (As := [.int (nI j)]) (rest := []) ⟨hx, hb, hml, hown, hG⟩ (k_Ru_contextAt1 l D g ad G M F N0 j hj) (aw_wV 1 hG gw_2_47 gw_2_45 gw_0_1 gw_2_46 gw_p_0 rfl rfl hd_Ru_contextAt ⟨Nat.le_of_ble_eq_true rfl, Nat.le_of_ble_eq_true rfl⟩) (aw_qV (va_recv hK hP rfl he1) hP hD hSh hU hS) rfl rfl hl.1 rfl (lv_room (Nat.le_of_ble_eq_true rfl)) d_Ru_mode_2 ⟨Nat.le_of_ble_eq_true rfl, Nat.le_of_ble_eq_true rfl⟩) hS (fun _ _ h => h) (fun _ h => h) (fun u8 q2 t8 H locs ht _ _ hB _ _ hS => ?_)
    obtain ⟨eq2, hB⟩ := hB
    obtain ⟨L, hP, hD, hSh⟩ := hB
    rw [ht] at hP
    clear ht
    subst eq2
    refine lv_astore hx hb d_Ru_mode_5 hl (by decide) rfl (fun ls hl => ?_)
    have hl : lv_has ls 6 [(5, .ref (aw_c ad j 0)), (0, .ref (aw_r ad 0)), (1, .int (nI j)), (2, .int k0), (3, .long b)] := hl
    refine lv_iload_n hx hb d_Ru_mode_7 rfl (lv_at hl 3 rfl) ?_
    refine lv_if_lt (tgt := 16) hx hb d_Ru_mode_8 (by decide) (fun _ => ?_) (fun h => absurd hk h)
    obtain ⟨sa3, hsa3⟩ := hU.2.1.2.2 (50, "there is no such mode") (by decide)
    exact aw_thr hx hb hst (names := ["java/lang/RuntimeException", "java/lang/Exception"]) hown (by decide +kernel) (by decide +kernel) (hG _ gw_3_45) (hG _ gw_0_15) hsa3 (aw_hat_Ru_28 hG hE) (by decide +kernel) hU hP hD hSh hS (by rw [hml]; exact hl.1) d_Ru_mode_16 d_Ru_mode_19 d_Ru_mode_20 d_Ru_mode_22 d_Ru_mode_25 (fun x h => (hex x h).elim) (by decide) (Nat.le_of_ble_eq_true rfl) (Nat.le_of_ble_eq_true rfl) (Nat.le_of_ble_eq_true rfl) hlocks (Nat.le_of_ble_eq_true rfl) (Nat.le_of_ble_eq_true rfl)
  · refine lv_aload_n hx hb d_Ru_mode_0 rfl (lv_at hl 0 rfl) ?_
    refine lv_iload_n hx hb d_Ru_mode_1 rfl (lv_at hl 1 rfl) ?_
    have he4 := rd_R0 hSh
    refine va_callr (va_runV (As := [.int (nI j)]) (rest := []) ⟨hx, hb, hml, hown, hG⟩ (k_Ru_contextAt1 l D g ad G M F N0 j hj) (aw_wV 1 hG gw_2_47 gw_2_45 gw_0_1 gw_2_46 gw_p_0 rfl rfl hd_Ru_contextAt ⟨Nat.le_of_ble_eq_true rfl, Nat.le_of_ble_eq_true rfl⟩) (aw_qV (va_recv hK hP rfl he4) hP hD hSh hU hS) rfl rfl hl.1 rfl (lv_room (Nat.le_of_ble_eq_true rfl)) d_Ru_mode_2 ⟨Nat.le_of_ble_eq_true rfl, Nat.le_of_ble_eq_true rfl⟩) hS (fun _ _ h => h) (fun _ h => h) (fun u8 q5 t8 H locs ht _ _ hB _ _ hS => ?_)
    obtain ⟨eq5, hB⟩ := hB
    obtain ⟨L, hP, hD, hSh⟩ := hB
    rw [ht] at hP
    clear ht
    subst eq5
    refine lv_astore hx hb d_Ru_mode_5 hl (by decide) rfl (fun ls hl => ?_)
    have hl : lv_has ls 6 [(5, .ref (aw_c ad j 0)), (0, .ref (aw_r ad 0)), (1, .int (nI j)), (2, .int k0), (3, .long b)] := hl
    refine lv_iload_n hx hb d_Ru_mode_7 rfl (lv_at hl 3 rfl) ?_
    refine lv_if_lt (tgt := 16) hx hb d_Ru_mode_8 (by decide) (fun h => absurd h hk.1) (fun _ => ?_)
    refine lv_iload_n hx hb d_Ru_mode_11 rfl (lv_at hl 3 rfl) ?_
    refine lv_iconst (v := nI 5) hx hb d_Ru_mode_12 (by decide +kernel) ?_
    refine lv_icmp_le (tgt := 26) hx hb d_Ru_mode_13 (by decide) (fun h => absurd h (fun h9 => absurd hk.2 (Int32.not_lt.mpr h9))) (fun _ => ?_)
    obtain ⟨sa6, hsa6⟩ := hU.2.1.2.2 (50, "there is no such mode") (by decide)
    exact aw_thr hx hb hst (names := ["java/lang/RuntimeException", "java/lang/Exception"]) hown (by decide +kernel) (by decide +kernel) (hG _ gw_3_45) (hG _ gw_0_15) hsa6 (aw_hat_Ru_28 hG hE) (by decide +kernel) hU hP hD hSh hS (by rw [hml]; exact hl.1) d_Ru_mode_16 d_Ru_mode_19 d_Ru_mode_20 d_Ru_mode_22 d_Ru_mode_25 (fun x h => (hex x h).elim) (by decide) (Nat.le_of_ble_eq_true rfl) (Nat.le_of_ble_eq_true rfl) (Nat.le_of_ble_eq_true rfl) hlocks (Nat.le_of_ble_eq_true rfl) (Nat.le_of_ble_eq_true rfl)
abbrev ws_Ru_modeXs : List Cond := Cond.code y_Ru_mode b_Ru_mode 6 none :: aw_G
abbrev rm_Ru_modeXs : Room := { frames := 7, cells := 1, slots := 6, locals := 110 }
set_option maxHeartbeats 4000000 in
set_option maxRecDepth 100000 in
theorem k_Ru_modeXs (l : Launch) (hst : l.stackTraces = false) (D : va_G) (g : Nat → ClassId) (ad : Nat → Nat) (G M : Nat → Nat × Nat) (F : Int32) (N0 : Nat) (j : Nat) (k : Nat) (b : Int64) (hj : j < 4) (hk : k ≤ 5) (hs : (G j).1 ≤ 1) : vx_Met l y_Ru_mode ws_Ru_modeXs rm_Ru_modeXs (va_Pc ([.ref (aw_r ad 0), .int (nI j), .int (nI k), .long b] : List Value) (aw_B D g ad G M F N0)) (va_Qv (fun (_ : Unit) => False) (fun (_ : Unit) _ => True) (aw_Z N0)) (vx_X (fun (_ : Unit) => True) (fun E (_ : Unit) t => E = "java/lang/IllegalStateException" ∧ aw_H D g ad G M F N0 t.heap) (aw_Z N0)) 1 6 (aw_Z N0) := by
  refine vx_ofW (cc := b_Ru_mode) (maxL := 6) (ret := none) (by decide) rfl ?_
  intro p e s m args below meth c s₁ B hml hex hv
  obtain ⟨rfl, ⟨L, hP, hD, hSh⟩, hU⟩ := hv
  have hx := B.exec
  have hb := B.bytes
  have hr := B.returns
  have hG : ∀ w ∈ aw_G, w.before _ s = true := fun w h => atoms_spec (ws := ws_Ru_modeXs) B.pre w (List.mem_cons_of_mem _ h)
  have hown : s.vm.findClass "RuleCiphers" = some m.cls := findClass_of_methodNamed B.named
  have hlocks := B.notSynchronized
  have hE := hU.1
  have hK := hE.1
  have hN := hE.2.1
  have hS : va_S (aw_Z N0) s.heap s.heap [] := va_S.rf
  have hl := lv_entry ([.ref (aw_r ad 0), .int (nI j), .int (nI k), .long b] : List Value) (n := 6) (Nat.le_of_ble_eq_true rfl)
  rw [lg_entry_eq]
  generalize (lg_sl ([.ref (aw_r ad 0), .int (nI j), .int (nI k), .long b] : List Value) ++ List.replicate (6 - (lg_sl ([.ref (aw_r ad 0), .int (nI j), .int (nI k), .long b] : List Value)).length) Slot.unset).toArray = ls at hl ⊢
  have hl : lv_has ls 6 [(0, .ref (aw_r ad 0)), (1, .int (nI j)), (2, .int (nI k)), (3, .long b)] := hl
  refine lv_aload_n hx hb d_Ru_mode_0 rfl (lv_at hl 0 rfl) ?_
  refine lv_iload_n hx hb d_Ru_mode_1 rfl (lv_at hl 1 rfl) ?_
  have he1 := rd_R0 hSh
  refine va_callr (va_runV (As := [.int (nI j)]) (rest := []) ⟨hx, hb, hml, hown, hG⟩ (k_Ru_contextAt1 l D g ad G M F N0 j hj) (aw_wV 1 hG gw_2_47 gw_2_45 gw_0_1 gw_2_46 gw_p_0 rfl rfl hd_Ru_contextAt ⟨Nat.le_of_ble_eq_true rfl, Nat.le_of_ble_eq_true rfl⟩) (aw_qV (va_recv hK hP rfl he1) hP hD hSh hU hS) rfl rfl hl.1 rfl (lv_room (Nat.le_of_ble_eq_true rfl)) d_Ru_mode_2 ⟨Nat.le_of_ble_eq_true rfl, Nat.le_of_ble_eq_true rfl⟩) hS (fun _ _ h => h) (fun _ h => h) (fun u8 q2 t8 H locs ht _ _ hB _ _ hS => ?_)
  obtain ⟨eq2, hB⟩ := hB
  obtain ⟨L, hP, hD, hSh⟩ := hB
  rw [ht] at hP
  clear ht
  subst eq2
  refine lv_astore hx hb d_Ru_mode_5 hl (by decide) rfl (fun ls hl => ?_)
  have hl : lv_has ls 6 [(5, .ref (aw_c ad j 0)), (0, .ref (aw_r ad 0)), (1, .int (nI j)), (2, .int (nI k)), (3, .long b)] := hl
  refine lv_iload_n hx hb d_Ru_mode_7 rfl (lv_at hl 3 rfl) ?_
  refine lv_if_lt (tgt := 16) hx hb d_Ru_mode_8 (by decide) (fun h => absurd h (show ¬ nI k < nI 0 from fun h9 => absurd ((nI_ltI (by omega) (by omega)).mp h9) (by omega))) (fun _ => ?_)
  refine lv_iload_n hx hb d_Ru_mode_11 rfl (lv_at hl 3 rfl) ?_
  refine lv_iconst (v := nI 5) hx hb d_Ru_mode_12 (by decide +kernel) ?_
  refine lv_icmp_le (tgt := 26) hx hb d_Ru_mode_13 (by decide) (fun _ => ?_) (fun h => absurd (show nI k ≤ nI 5 from (nI_leI (by omega) (by omega)).mpr (by omega)) h)
  refine lv_aload hx hb d_Ru_mode_26 (lv_at hl 0 rfl) ?_
  refine vx_callv (vx_runS (As := [.ref (aw_c ad j 0)]) (rest := []) ⟨hx, hb, hml, hown, hG⟩ (k_Ru_requireKeyX l hst D g ad G M F N0 j hj hs) (aw_wS 1 hG gw_5_30 gw_5_28 gw_0_1 gw_5_29 rfl rfl hd_Ru_requireKey ⟨Nat.le_of_ble_eq_true rfl, Nat.le_of_ble_eq_true rfl⟩) (aw_qS hP hD hSh hU hS) rfl rfl hl.1 rfl (lv_room (Nat.le_of_ble_eq_true rfl)) d_Ru_mode_28 ⟨Nat.le_of_ble_eq_true rfl, Nat.le_of_ble_eq_true rfl⟩) hS (fun _ _ h => h) (fun _ h => h) (fun _ _ h => h) (fun E ce q9 u t H locs ht _ _ hBX _ _ hS hce hcv hcl => ?_) (fun u t H locs _ _ hF _ _ _ _ => hF.elim)
  obtain ⟨rfl, L, hP, hD, hSh⟩ := hBX
  rw [ht] at hP
  exact vx_out (fun x h => (hex x h).elim) hlocks hce hcv hcl (fun t9 ht9 _ => ⟨(), trivial, ⟨rfl, aw_Hr ht9 hP hD hSh⟩, hS.F ht9⟩) hS.2.2 (Nat.le_of_ble_eq_true rfl) (Nat.le_of_ble_eq_true rfl)
abbrev ws_Ru_free1 : List Cond := Cond.code y_Ru_free b_Ru_free 2 none :: aw_G
abbrev rm_Ru_free1 : Room := { frames := 1, cells := 0, slots := 0, locals := 21 }
set_option maxHeartbeats 4000000 in
set_option maxRecDepth 100000 in
theorem k_Ru_free1 (l : Launch) (D : va_G) (g : Nat → ClassId) (ad : Nat → Nat) (G M : Nat → Nat × Nat) (F : Int32) (N0 : Nat) (j : Nat) (hj : j < 4) : Met l y_Ru_free ws_Ru_free1 rm_Ru_free1 (va_Pc ([.ref (aw_r ad 0), .int (nI j)] : List Value) (aw_B D g ad G M F N0)) (va_Qv (fun (_ : Unit) => True) (fun (_ : Unit) t => aw_H D g ad (aw_g1 G j 0) M F N0 t.heap) (aw_Z N0)) 0 0 (aw_Z N0) := by
  refine Met.ofW (cc := b_Ru_free) (maxL := 2) (ret := none) (by decide) rfl ?_
  intro p e s m args below meth c s₁ B hml hv
  obtain ⟨rfl, ⟨L, hP, hD, hSh⟩, hU⟩ := hv
  have hx := B.exec
  have hb := B.bytes
  have hr := B.returns
  have hG : ∀ w ∈ aw_G, w.before _ s = true := fun w h => atoms_spec (ws := ws_Ru_free1) B.pre w (List.mem_cons_of_mem _ h)
  have hown : s.vm.findClass "RuleCiphers" = some m.cls := findClass_of_methodNamed B.named
  have hlocks := B.notSynchronized
  have hE := hU.1
  have hK := hE.1
  have hN := hE.2.1
  have hS : va_S (aw_Z N0) s.heap s.heap [] := va_S.rf
  have hl := lv_entry ([.ref (aw_r ad 0), .int (nI j)] : List Value) (n := 2) (Nat.le_of_ble_eq_true rfl)
  rw [lg_entry_eq]
  generalize (lg_sl ([.ref (aw_r ad 0), .int (nI j)] : List Value) ++ List.replicate (2 - (lg_sl ([.ref (aw_r ad 0), .int (nI j)] : List Value)).length) Slot.unset).toArray = ls at hl ⊢
  have hl : lv_has ls 2 [(0, .ref (aw_r ad 0)), (1, .int (nI j))] := hl
  refine lv_aload_n hx hb d_Ru_free_0 rfl (lv_at hl 0 rfl) ?_
  refine lv_iload_n hx hb d_Ru_free_1 rfl (lv_at hl 1 rfl) ?_
  have he1 := rd_R0 hSh
  refine va_callr (va_runV (As := [.int (nI j)]) (rest := []) ⟨hx, hb, hml, hown, hG⟩ (k_Ru_contextAt1 l D g ad G M F N0 j hj) (aw_wV 1 hG gw_2_47 gw_2_45 gw_0_1 gw_2_46 gw_p_0 rfl rfl hd_Ru_contextAt ⟨Nat.le_of_ble_eq_true rfl, Nat.le_of_ble_eq_true rfl⟩) (aw_qV (va_recv hK hP rfl he1) hP hD hSh hU hS) rfl rfl hl.1 rfl (lv_room (Nat.le_of_ble_eq_true rfl)) d_Ru_free_2 ⟨Nat.le_of_ble_eq_true rfl, Nat.le_of_ble_eq_true rfl⟩) hS (fun _ _ h => h) (fun _ h => h) (fun u8 q2 t8 H locs ht _ _ hB _ _ hS => ?_)
  obtain ⟨eq2, hB⟩ := hB
  obtain ⟨L, hP, hD, hSh⟩ := hB
  rw [ht] at hP
  clear ht
  subst eq2
  refine lv_iconst (v := nI 0) hx hb d_Ru_free_5 (by decide +kernel) ?_
  obtain ⟨o4, y5, y6, y7, x8, x9, ho10, he3⟩ := rd_C0 hSh hj
  have hg := hSh.2.2.2.2.1 j hj
  refine aw_put (v := .int (nI 0)) (ty := .int) (C := R_Cx) (T := T_Cx) (N := 10) hx hb hG in_Cx t_Cx t_Cx_ok n_Cx hown hK hP hD hS (3 + 16 * j + 0) he3 rfl 2 (by decide) (hG _ gw_1_57) (fun _ h => h) rfl (by decide +kernel) rfl rfl (Nat.le_of_ble_eq_true rfl) d_Ru_free_6 (wr_C0s1 hSh hj 0 (by omega) o4 y5 y6 y7 x8 x9 ho10) (fun H locs L hP hD hSh hS => ?_)
  exact W.vret hx hb hr (fun t ht hW => ⟨⟨(), rfl, trivial, aw_Hr ht hP hD hSh⟩, hS.F ht⟩) hS.2.2 d_Ru_free_9
abbrev ws_Ru_freeXc : List Cond := Cond.code y_Ru_free b_Ru_free 2 none :: aw_G
abbrev rm_Ru_freeXc : Room := { frames := 7, cells := 1, slots := 6, locals := 111 }
set_option maxHeartbeats 4000000 in
set_option maxRecDepth 100000 in
theorem k_Ru_freeXc (l : Launch) (hst : l.stackTraces = false) (D : va_G) (g : Nat → ClassId) (ad : Nat → Nat) (G M : Nat → Nat × Nat) (F : Int32) (N0 : Nat) (c0 : Int32) (hc : c0 < 0 ∨ (¬ c0 < 0 ∧ ¬ c0 < nI 4)) : vx_Met l y_Ru_free ws_Ru_freeXc rm_Ru_freeXc (va_Pc ([.ref (aw_r ad 0), .int c0] : List Value) (aw_B D g ad G M F N0)) (va_Qv (fun (_ : Unit) => False) (fun (_ : Unit) _ => True) (aw_Z N0)) (vx_X (fun (_ : Unit) => True) (fun E (_ : Unit) t => E = "java/lang/IndexOutOfBoundsException" ∧ aw_H D g ad G M F N0 t.heap) (aw_Z N0)) 1 6 (aw_Z N0) := by
  refine vx_ofW (cc := b_Ru_free) (maxL := 2) (ret := none) (by decide) rfl ?_
  intro p e s m args below meth c s₁ B hml hex hv
  obtain ⟨rfl, ⟨L, hP, hD, hSh⟩, hU⟩ := hv
  have hx := B.exec
  have hb := B.bytes
  have hr := B.returns
  have hG : ∀ w ∈ aw_G, w.before _ s = true := fun w h => atoms_spec (ws := ws_Ru_freeXc) B.pre w (List.mem_cons_of_mem _ h)
  have hown : s.vm.findClass "RuleCiphers" = some m.cls := findClass_of_methodNamed B.named
  have hlocks := B.notSynchronized
  have hE := hU.1
  have hK := hE.1
  have hN := hE.2.1
  have hS : va_S (aw_Z N0) s.heap s.heap [] := va_S.rf
  have hl := lv_entry ([.ref (aw_r ad 0), .int c0] : List Value) (n := 2) (Nat.le_of_ble_eq_true rfl)
  rw [lg_entry_eq]
  generalize (lg_sl ([.ref (aw_r ad 0), .int c0] : List Value) ++ List.replicate (2 - (lg_sl ([.ref (aw_r ad 0), .int c0] : List Value)).length) Slot.unset).toArray = ls at hl ⊢
  have hl : lv_has ls 2 [(0, .ref (aw_r ad 0)), (1, .int c0)] := hl
  refine lv_aload_n hx hb d_Ru_free_0 rfl (lv_at hl 0 rfl) ?_
  refine lv_iload_n hx hb d_Ru_free_1 rfl (lv_at hl 1 rfl) ?_
  have he1 := rd_R0 hSh
  refine vx_callv (vx_runV (As := [.int c0]) (rest := []) ⟨hx, hb, hml, hown, hG⟩ (k_Ru_contextAtX l hst D g ad G M F N0 c0 hc) (aw_wV 1 hG gw_2_47 gw_2_45 gw_0_1 gw_2_46 gw_p_0 rfl rfl hd_Ru_contextAt ⟨Nat.le_of_ble_eq_true rfl, Nat.le_of_ble_eq_true rfl⟩) (aw_qV (va_recv hK hP rfl he1) hP hD hSh hU hS) rfl rfl hl.1 rfl (lv_room (Nat.le_of_ble_eq_true rfl)) d_Ru_free_2 ⟨Nat.le_of_ble_eq_true rfl, Nat.le_of_ble_eq_true rfl⟩) hS (fun _ _ h => h) (fun _ h => h) (fun _ _ h => h) (fun E ce q9 u t H locs ht _ _ hBX _ _ hS hce hcv hcl => ?_) (fun u t H locs _ _ hF _ _ _ _ => hF.elim)
  obtain ⟨rfl, L, hP, hD, hSh⟩ := hBX
  rw [ht] at hP
  exact vx_out (fun x h => (hex x h).elim) hlocks hce hcv hcl (fun t9 ht9 _ => ⟨(), trivial, ⟨rfl, aw_Hr ht9 hP hD hSh⟩, hS.F ht9⟩) hS.2.2 (Nat.le_of_ble_eq_true rfl) (Nat.le_of_ble_eq_true rfl)
abbrev ws_Ru_stage1 : List Cond := Cond.code y_Ru_stage b_Ru_stage 2 (some .int) :: aw_G
abbrev rm_Ru_stage1 : Room := { frames := 1, cells := 0, slots := 0, locals := 21 }
set_option maxHeartbeats 4000000 in
set_option maxRecDepth 100000 in
theorem k_Ru_stage1 (l : Launch) (D : va_G) (g : Nat → ClassId) (ad : Nat → Nat) (G M : Nat → Nat × Nat) (F : Int32) (N0 : Nat) (j : Nat) (hj : j < 4) : Met l y_Ru_stage ws_Ru_stage1 rm_Ru_stage1 (va_Pc ([.ref (aw_r ad 0), .int (nI j)] : List Value) (aw_B D g ad G M F N0)) (va_Qi (fun r (_ : Unit) => r = nI (G j).1) (fun (_ : Unit) t => aw_H D g ad G M F N0 t.heap) (aw_Z N0)) 0 0 (aw_Z N0) := by
  refine Met.ofW (cc := b_Ru_stage) (maxL := 2) (ret := (some .int)) (by decide) rfl ?_
  intro p e s m args below meth c s₁ B hml hv
  obtain ⟨rfl, ⟨L, hP, hD, hSh⟩, hU⟩ := hv
  have hx := B.exec
  have hb := B.bytes
  have hr := B.returns
  have hG : ∀ w ∈ aw_G, w.before _ s = true := fun w h => atoms_spec (ws := ws_Ru_stage1) B.pre w (List.mem_cons_of_mem _ h)
  have hown : s.vm.findClass "RuleCiphers" = some m.cls := findClass_of_methodNamed B.named
  have hlocks := B.notSynchronized
  have hE := hU.1
  have hK := hE.1
  have hN := hE.2.1
  have hS : va_S (aw_Z N0) s.heap s.heap [] := va_S.rf
  have hl := lv_entry ([.ref (aw_r ad 0), .int (nI j)] : List Value) (n := 2) (Nat.le_of_ble_eq_true rfl)
  rw [lg_entry_eq]
  generalize (lg_sl ([.ref (aw_r ad 0), .int (nI j)] : List Value) ++ List.replicate (2 - (lg_sl ([.ref (aw_r ad 0), .int (nI j)] : List Value)).length) Slot.unset).toArray = ls at hl ⊢
  have hl : lv_has ls 2 [(0, .ref (aw_r ad 0)), (1, .int (nI j))] := hl
  refine lv_aload_n hx hb d_Ru_stage_0 rfl (lv_at hl 0 rfl) ?_
  refine lv_iload_n hx hb d_Ru_stage_1 rfl (lv_at hl 1 rfl) ?_
  have he1 := rd_R0 hSh
  refine va_callr (va_runV (As := [.int (nI j)]) (rest := []) ⟨hx, hb, hml, hown, hG⟩ (k_Ru_contextAt1 l D g ad G M F N0 j hj) (aw_wV 1 hG gw_2_47 gw_2_45 gw_0_1 gw_2_46 gw_p_0 rfl rfl hd_Ru_contextAt ⟨Nat.le_of_ble_eq_true rfl, Nat.le_of_ble_eq_true rfl⟩) (aw_qV (va_recv hK hP rfl he1) hP hD hSh hU hS) rfl rfl hl.1 rfl (lv_room (Nat.le_of_ble_eq_true rfl)) d_Ru_stage_2 ⟨Nat.le_of_ble_eq_true rfl, Nat.le_of_ble_eq_true rfl⟩) hS (fun _ _ h => h) (fun _ h => h) (fun u8 q2 t8 H locs ht _ _ hB _ _ hS => ?_)
  obtain ⟨eq2, hB⟩ := hB
  obtain ⟨L, hP, hD, hSh⟩ := hB
  rw [ht] at hP
  clear ht
  subst eq2
  obtain ⟨o4, y5, y6, y7, x8, x9, ho10, he3⟩ := rd_C0 hSh hj
  have hg := hSh.2.2.2.2.1 j hj
  refine va_get (C := R_Cx) (T := T_Cx) (N := 10) (v := .int (nI ((G j).1))) hx hb hG in_Cx hown hK hP (3 + 16 * j + 0) he3 rfl 2 (by decide) (hG _ gw_1_57) (fun _ h => h) rfl d_Ru_stage_5 ?_
  exact W.iret hx hb hr (fun t ht hW => ⟨⟨_, (), rfl, rfl, aw_Hr ht hP hD hSh⟩, hS.F ht⟩) hS.2.2 d_Ru_stage_8
abbrev ws_Ru_stageXc : List Cond := Cond.code y_Ru_stage b_Ru_stage 2 (some .int) :: aw_G
abbrev rm_Ru_stageXc : Room := { frames := 7, cells := 1, slots := 6, locals := 111 }
set_option maxHeartbeats 4000000 in
set_option maxRecDepth 100000 in
theorem k_Ru_stageXc (l : Launch) (hst : l.stackTraces = false) (D : va_G) (g : Nat → ClassId) (ad : Nat → Nat) (G M : Nat → Nat × Nat) (F : Int32) (N0 : Nat) (c0 : Int32) (hc : c0 < 0 ∨ (¬ c0 < 0 ∧ ¬ c0 < nI 4)) : vx_Met l y_Ru_stage ws_Ru_stageXc rm_Ru_stageXc (va_Pc ([.ref (aw_r ad 0), .int c0] : List Value) (aw_B D g ad G M F N0)) (va_Qv (fun (_ : Unit) => False) (fun (_ : Unit) _ => True) (aw_Z N0)) (vx_X (fun (_ : Unit) => True) (fun E (_ : Unit) t => E = "java/lang/IndexOutOfBoundsException" ∧ aw_H D g ad G M F N0 t.heap) (aw_Z N0)) 1 6 (aw_Z N0) := by
  refine vx_ofW (cc := b_Ru_stage) (maxL := 2) (ret := (some .int)) (by decide) rfl ?_
  intro p e s m args below meth c s₁ B hml hex hv
  obtain ⟨rfl, ⟨L, hP, hD, hSh⟩, hU⟩ := hv
  have hx := B.exec
  have hb := B.bytes
  have hr := B.returns
  have hG : ∀ w ∈ aw_G, w.before _ s = true := fun w h => atoms_spec (ws := ws_Ru_stageXc) B.pre w (List.mem_cons_of_mem _ h)
  have hown : s.vm.findClass "RuleCiphers" = some m.cls := findClass_of_methodNamed B.named
  have hlocks := B.notSynchronized
  have hE := hU.1
  have hK := hE.1
  have hN := hE.2.1
  have hS : va_S (aw_Z N0) s.heap s.heap [] := va_S.rf
  have hl := lv_entry ([.ref (aw_r ad 0), .int c0] : List Value) (n := 2) (Nat.le_of_ble_eq_true rfl)
  rw [lg_entry_eq]
  generalize (lg_sl ([.ref (aw_r ad 0), .int c0] : List Value) ++ List.replicate (2 - (lg_sl ([.ref (aw_r ad 0), .int c0] : List Value)).length) Slot.unset).toArray = ls at hl ⊢
  have hl : lv_has ls 2 [(0, .ref (aw_r ad 0)), (1, .int c0)] := hl
  refine lv_aload_n hx hb d_Ru_stage_0 rfl (lv_at hl 0 rfl) ?_
  refine lv_iload_n hx hb d_Ru_stage_1 rfl (lv_at hl 1 rfl) ?_
  have he1 := rd_R0 hSh
  refine vx_callv (vx_runV (As := [.int c0]) (rest := []) ⟨hx, hb, hml, hown, hG⟩ (k_Ru_contextAtX l hst D g ad G M F N0 c0 hc) (aw_wV 1 hG gw_2_47 gw_2_45 gw_0_1 gw_2_46 gw_p_0 rfl rfl hd_Ru_contextAt ⟨Nat.le_of_ble_eq_true rfl, Nat.le_of_ble_eq_true rfl⟩) (aw_qV (va_recv hK hP rfl he1) hP hD hSh hU hS) rfl rfl hl.1 rfl (lv_room (Nat.le_of_ble_eq_true rfl)) d_Ru_stage_2 ⟨Nat.le_of_ble_eq_true rfl, Nat.le_of_ble_eq_true rfl⟩) hS (fun _ _ h => h) (fun _ h => h) (fun _ _ h => h) (fun E ce q9 u t H locs ht _ _ hBX _ _ hS hce hcv hcl => ?_) (fun u t H locs _ _ hF _ _ _ _ => hF.elim)
  obtain ⟨rfl, L, hP, hD, hSh⟩ := hBX
  rw [ht] at hP
  exact vx_out (fun x h => (hex x h).elim) hlocks hce hcv hcl (fun t9 ht9 _ => ⟨(), trivial, ⟨rfl, aw_Hr ht9 hP hD hSh⟩, hS.F ht9⟩) hS.2.2 (Nat.le_of_ble_eq_true rfl) (Nat.le_of_ble_eq_true rfl)
abbrev ws_Ru_block1 : List Cond := Cond.code y_Ru_block b_Ru_block 6 (some .long) :: aw_G
abbrev rm_Ru_block1 : Room := { frames := 4, cells := 0, slots := 0, locals := 102 }
set_option maxHeartbeats 4000000 in
set_option maxRecDepth 100000 in
theorem k_Ru_block1 (l : Launch) (D : va_G) (g : Nat → ClassId) (ad : Nat → Nat) (G M : Nat → Nat × Nat) (F : Int32) (N0 : Nat) (j : Nat) (bk : Int32) (b : Int64) (hj : j < 4) (hs : 2 ≤ (G j).1) : Met l y_Ru_block ws_Ru_block1 rm_Ru_block1 (va_Pc ([.ref (aw_r ad 0), .int (nI j), .int bk, .long b] : List Value) (aw_B D g ad G M F N0)) (va_Ql (fun r (_ : Unit) => True) (fun (_ : Unit) t => aw_H D g ad G M F N0 t.heap) (aw_Z N0)) 0 0 (aw_Z N0) := by
  refine Met.ofW (cc := b_Ru_block) (maxL := 6) (ret := (some .long)) (by decide) rfl ?_
  intro p e s m args below meth c s₁ B hml hv
  obtain ⟨rfl, ⟨L, hP, hD, hSh⟩, hU⟩ := hv
  have hx := B.exec
  have hb := B.bytes
  have hr := B.returns
  have hG : ∀ w ∈ aw_G, w.before _ s = true := fun w h => atoms_spec (ws := ws_Ru_block1) B.pre w (List.mem_cons_of_mem _ h)
  have hown : s.vm.findClass "RuleCiphers" = some m.cls := findClass_of_methodNamed B.named
  have hlocks := B.notSynchronized
  have hE := hU.1
  have hK := hE.1
  have hN := hE.2.1
  have hS : va_S (aw_Z N0) s.heap s.heap [] := va_S.rf
  have hl := lv_entry ([.ref (aw_r ad 0), .int (nI j), .int bk, .long b] : List Value) (n := 6) (Nat.le_of_ble_eq_true rfl)
  rw [lg_entry_eq]
  generalize (lg_sl ([.ref (aw_r ad 0), .int (nI j), .int bk, .long b] : List Value) ++ List.replicate (6 - (lg_sl ([.ref (aw_r ad 0), .int (nI j), .int bk, .long b] : List Value)).length) Slot.unset).toArray = ls at hl ⊢
  have hl : lv_has ls 6 [(0, .ref (aw_r ad 0)), (1, .int (nI j)), (2, .int bk), (3, .long b)] := hl
  refine lv_aload_n hx hb d_Ru_block_0 rfl (lv_at hl 0 rfl) ?_
  refine lv_iload_n hx hb d_Ru_block_1 rfl (lv_at hl 1 rfl) ?_
  have he1 := rd_R0 hSh
  refine va_callr (va_runV (As := [.int (nI j)]) (rest := []) ⟨hx, hb, hml, hown, hG⟩ (k_Ru_contextAt1 l D g ad G M F N0 j hj) (aw_wV 1 hG gw_2_47 gw_2_45 gw_0_1 gw_2_46 gw_p_0 rfl rfl hd_Ru_contextAt ⟨Nat.le_of_ble_eq_true rfl, Nat.le_of_ble_eq_true rfl⟩) (aw_qV (va_recv hK hP rfl he1) hP hD hSh hU hS) rfl rfl hl.1 rfl (lv_room (Nat.le_of_ble_eq_true rfl)) d_Ru_block_2 ⟨Nat.le_of_ble_eq_true rfl, Nat.le_of_ble_eq_true rfl⟩) hS (fun _ _ h => h) (fun _ h => h) (fun u8 q2 t8 H locs ht _ _ hB _ _ hS => ?_)
  obtain ⟨eq2, hB⟩ := hB
  obtain ⟨L, hP, hD, hSh⟩ := hB
  rw [ht] at hP
  clear ht
  subst eq2
  refine lv_astore hx hb d_Ru_block_5 hl (by decide) rfl (fun ls hl => ?_)
  have hl : lv_has ls 6 [(5, .ref (aw_c ad j 0)), (0, .ref (aw_r ad 0)), (1, .int (nI j)), (2, .int bk), (3, .long b)] := hl
  refine lv_aload hx hb d_Ru_block_7 (lv_at hl 0 rfl) ?_
  refine va_callv (va_runS (As := [.ref (aw_c ad j 0)]) (rest := []) ⟨hx, hb, hml, hown, hG⟩ (k_Ru_requireKey1 l D g ad G M F N0 j hj hs) (aw_wS 1 hG gw_5_30 gw_5_28 gw_0_1 gw_5_29 rfl rfl hd_Ru_requireKey ⟨Nat.le_of_ble_eq_true rfl, Nat.le_of_ble_eq_true rfl⟩) (aw_qS hP hD hSh hU hS) rfl rfl hl.1 rfl (lv_room (Nat.le_of_ble_eq_true rfl)) d_Ru_block_9 ⟨Nat.le_of_ble_eq_true rfl, Nat.le_of_ble_eq_true rfl⟩) hS (fun _ _ h => h) (fun _ h => h) (fun u8 t8 H locs ht _ _ hB _ _ hS => ?_)
  obtain ⟨L, hP, hD, hSh⟩ := hB
  rw [ht] at hP
  clear ht
  refine lv_aload hx hb d_Ru_block_12 (lv_at hl 0 rfl) ?_
  obtain ⟨o4, y5, y6, y7, x8, x9, ho10, he3⟩ := rd_C0 hSh hj
  have hg := hSh.2.2.2.2.1 j hj
  refine va_get (C := R_Cx) (T := T_Cx) (N := 10) (v := .ref (aw_c ad j o4)) hx hb hG in_Cx hown hK hP (3 + 16 * j + 0) he3 rfl 4 (by decide) (hG _ gw_2_1) (fun _ h => h) rfl d_Ru_block_14 ?_
  refine lv_iload_n hx hb d_Ru_block_17 rfl (lv_at hl 3 rfl) ?_
  refine lv_lload_n hx hb d_Ru_block_18 rfl (lv_at hl 4 rfl) ?_
  have hrun11 : va_Run p l e (headSpec ws_Ru_block1 rm_Ru_block1).room s m ([.ref (aw_r ad 0), .int (nI j), .int bk, .long b] : List Value).toArray below meth c H locs 0 0 0 0 (F0 m 19 ls [.long b, .int bk, .ref (aw_c ad j o4)]) [] (va_Ql (fun r (_ : Unit) => True) (fun (_ : Unit) t => aw_H D g ad G M F N0 t.heap) (aw_Z N0) ([.ref (aw_c ad j o4), .int bk, .long b] : List Value).toArray) (aw_Z N0) := by
    rcases ho10 with rfl | rfl | rfl | rfl | rfl
    · have he12 := rd_C2 hSh hj
      exact va_runU (As := [.int bk, .long b]) (rest := []) ⟨hx, hb, hml, hown, hG⟩ (k_Ci_onOrBack l D g ad G M F N0 j 2 bk b hj (by unfold aw_cof; omega)) (aw_wU (owner := "RuleCiphers$Cipher") 2 hG gw_6_8 gw_6_0 gw_6_2 gw_6_4 gw_6_1 gw_0_3 rfl rfl rfl hd_Ci_onOrBack ⟨Nat.le_of_ble_eq_true rfl, Nat.le_of_ble_eq_true rfl⟩) (aw_qV (va_recv hK hP rfl he12) hP hD hSh hU hS) rfl rfl hl.1 rfl (lv_room (Nat.le_of_ble_eq_true rfl)) d_Ru_block_19 ⟨Nat.le_of_ble_eq_true rfl, Nat.le_of_ble_eq_true rfl⟩
    · have he13 := rd_C5 hSh hj
      exact va_runU (As := [.int bk, .long b]) (rest := []) ⟨hx, hb, hml, hown, hG⟩ (k_Ci_onOrBack l D g ad G M F N0 j 5 bk b hj (by unfold aw_cof; omega)) (aw_wU (owner := "RuleCiphers$Cipher") 2 hG gw_6_8 gw_6_0 gw_6_2 gw_6_7 gw_6_1 gw_0_3 rfl rfl rfl hd_Ci_onOrBack ⟨Nat.le_of_ble_eq_true rfl, Nat.le_of_ble_eq_true rfl⟩) (aw_qV (va_recv hK hP rfl he13) hP hD hSh hU hS) rfl rfl hl.1 rfl (lv_room (Nat.le_of_ble_eq_true rfl)) d_Ru_block_19 ⟨Nat.le_of_ble_eq_true rfl, Nat.le_of_ble_eq_true rfl⟩
    · have he14 := rd_C7 hSh hj
      exact va_runU (As := [.int bk, .long b]) (rest := []) ⟨hx, hb, hml, hown, hG⟩ (k_Ci_onOrBack l D g ad G M F N0 j 7 bk b hj (by unfold aw_cof; omega)) (aw_wU (owner := "RuleCiphers$Cipher") 2 hG gw_6_8 gw_6_0 gw_6_2 gw_6_6 gw_6_1 gw_0_3 rfl rfl rfl hd_Ci_onOrBack ⟨Nat.le_of_ble_eq_true rfl, Nat.le_of_ble_eq_true rfl⟩) (aw_qV (va_recv hK hP rfl he14) hP hD hSh hU hS) rfl rfl hl.1 rfl (lv_room (Nat.le_of_ble_eq_true rfl)) d_Ru_block_19 ⟨Nat.le_of_ble_eq_true rfl, Nat.le_of_ble_eq_true rfl⟩
    · have he15 := rd_C10 hSh hj
      exact va_runU (As := [.int bk, .long b]) (rest := []) ⟨hx, hb, hml, hown, hG⟩ (k_Ci_onOrBack l D g ad G M F N0 j 10 bk b hj (by unfold aw_cof; omega)) (aw_wU (owner := "RuleCiphers$Cipher") 2 hG gw_6_8 gw_6_0 gw_6_2 gw_6_5 gw_6_1 gw_0_3 rfl rfl rfl hd_Ci_onOrBack ⟨Nat.le_of_ble_eq_true rfl, Nat.le_of_ble_eq_true rfl⟩) (aw_qV (va_recv hK hP rfl he15) hP hD hSh hU hS) rfl rfl hl.1 rfl (lv_room (Nat.le_of_ble_eq_true rfl)) d_Ru_block_19 ⟨Nat.le_of_ble_eq_true rfl, Nat.le_of_ble_eq_true rfl⟩
    · have he16 := rd_C12 hSh hj
      exact va_runU (As := [.int bk, .long b]) (rest := []) ⟨hx, hb, hml, hown, hG⟩ (k_Ci_onOrBack l D g ad G M F N0 j 12 bk b hj (by unfold aw_cof; omega)) (aw_wU (owner := "RuleCiphers$Cipher") 2 hG gw_6_8 gw_6_0 gw_6_2 gw_6_3 gw_6_1 gw_0_3 rfl rfl rfl hd_Ci_onOrBack ⟨Nat.le_of_ble_eq_true rfl, Nat.le_of_ble_eq_true rfl⟩) (aw_qV (va_recv hK hP rfl he16) hP hD hSh hU hS) rfl rfl hl.1 rfl (lv_room (Nat.le_of_ble_eq_true rfl)) d_Ru_block_19 ⟨Nat.le_of_ble_eq_true rfl, Nat.le_of_ble_eq_true rfl⟩
  refine va_calll hrun11 hS (fun _ _ h => h) (fun _ h => h) (fun y17 u8 t8 H locs ht _ _ hB _ _ hS => ?_)
  obtain ⟨L, hP, hD, hSh⟩ := hB
  rw [ht] at hP
  clear ht
  exact W.lret hx hb hr (fun t ht hW => ⟨⟨_, (), rfl, trivial, aw_Hr ht hP hD hSh⟩, hS.F ht⟩) hS.2.2 d_Ru_block_22
abbrev ws_Ru_blockXc : List Cond := Cond.code y_Ru_block b_Ru_block 6 (some .long) :: aw_G
abbrev rm_Ru_blockXc : Room := { frames := 7, cells := 1, slots := 6, locals := 111 }
set_option maxHeartbeats 4000000 in
set_option maxRecDepth 100000 in
theorem k_Ru_blockXc (l : Launch) (hst : l.stackTraces = false) (D : va_G) (g : Nat → ClassId) (ad : Nat → Nat) (G M : Nat → Nat × Nat) (F : Int32) (N0 : Nat) (c0 : Int32) (bk : Int32) (b : Int64) (hc : c0 < 0 ∨ (¬ c0 < 0 ∧ ¬ c0 < nI 4)) : vx_Met l y_Ru_block ws_Ru_blockXc rm_Ru_blockXc (va_Pc ([.ref (aw_r ad 0), .int c0, .int bk, .long b] : List Value) (aw_B D g ad G M F N0)) (va_Qv (fun (_ : Unit) => False) (fun (_ : Unit) _ => True) (aw_Z N0)) (vx_X (fun (_ : Unit) => True) (fun E (_ : Unit) t => E = "java/lang/IndexOutOfBoundsException" ∧ aw_H D g ad G M F N0 t.heap) (aw_Z N0)) 1 6 (aw_Z N0) := by
  refine vx_ofW (cc := b_Ru_block) (maxL := 6) (ret := (some .long)) (by decide) rfl ?_
  intro p e s m args below meth c s₁ B hml hex hv
  obtain ⟨rfl, ⟨L, hP, hD, hSh⟩, hU⟩ := hv
  have hx := B.exec
  have hb := B.bytes
  have hr := B.returns
  have hG : ∀ w ∈ aw_G, w.before _ s = true := fun w h => atoms_spec (ws := ws_Ru_blockXc) B.pre w (List.mem_cons_of_mem _ h)
  have hown : s.vm.findClass "RuleCiphers" = some m.cls := findClass_of_methodNamed B.named
  have hlocks := B.notSynchronized
  have hE := hU.1
  have hK := hE.1
  have hN := hE.2.1
  have hS : va_S (aw_Z N0) s.heap s.heap [] := va_S.rf
  have hl := lv_entry ([.ref (aw_r ad 0), .int c0, .int bk, .long b] : List Value) (n := 6) (Nat.le_of_ble_eq_true rfl)
  rw [lg_entry_eq]
  generalize (lg_sl ([.ref (aw_r ad 0), .int c0, .int bk, .long b] : List Value) ++ List.replicate (6 - (lg_sl ([.ref (aw_r ad 0), .int c0, .int bk, .long b] : List Value)).length) Slot.unset).toArray = ls at hl ⊢
  have hl : lv_has ls 6 [(0, .ref (aw_r ad 0)), (1, .int c0), (2, .int bk), (3, .long b)] := hl
  refine lv_aload_n hx hb d_Ru_block_0 rfl (lv_at hl 0 rfl) ?_
  refine lv_iload_n hx hb d_Ru_block_1 rfl (lv_at hl 1 rfl) ?_
  have he1 := rd_R0 hSh
  refine vx_callv (vx_runV (As := [.int c0]) (rest := []) ⟨hx, hb, hml, hown, hG⟩ (k_Ru_contextAtX l hst D g ad G M F N0 c0 hc) (aw_wV 1 hG gw_2_47 gw_2_45 gw_0_1 gw_2_46 gw_p_0 rfl rfl hd_Ru_contextAt ⟨Nat.le_of_ble_eq_true rfl, Nat.le_of_ble_eq_true rfl⟩) (aw_qV (va_recv hK hP rfl he1) hP hD hSh hU hS) rfl rfl hl.1 rfl (lv_room (Nat.le_of_ble_eq_true rfl)) d_Ru_block_2 ⟨Nat.le_of_ble_eq_true rfl, Nat.le_of_ble_eq_true rfl⟩) hS (fun _ _ h => h) (fun _ h => h) (fun _ _ h => h) (fun E ce q9 u t H locs ht _ _ hBX _ _ hS hce hcv hcl => ?_) (fun u t H locs _ _ hF _ _ _ _ => hF.elim)
  obtain ⟨rfl, L, hP, hD, hSh⟩ := hBX
  rw [ht] at hP
  exact vx_out (fun x h => (hex x h).elim) hlocks hce hcv hcl (fun t9 ht9 _ => ⟨(), trivial, ⟨rfl, aw_Hr ht9 hP hD hSh⟩, hS.F ht9⟩) hS.2.2 (Nat.le_of_ble_eq_true rfl) (Nat.le_of_ble_eq_true rfl)
abbrev ws_Ru_blockXs : List Cond := Cond.code y_Ru_block b_Ru_block 6 (some .long) :: aw_G
abbrev rm_Ru_blockXs : Room := { frames := 7, cells := 1, slots := 6, locals := 110 }
set_option maxHeartbeats 4000000 in
set_option maxRecDepth 100000 in
theorem k_Ru_blockXs (l : Launch) (hst : l.stackTraces = false) (D : va_G) (g : Nat → ClassId) (ad : Nat → Nat) (G M : Nat → Nat × Nat) (F : Int32) (N0 : Nat) (j : Nat) (bk : Int32) (b : Int64) (hj : j < 4) (hs : (G j).1 ≤ 1) : vx_Met l y_Ru_block ws_Ru_blockXs rm_Ru_blockXs (va_Pc ([.ref (aw_r ad 0), .int (nI j), .int bk, .long b] : List Value) (aw_B D g ad G M F N0)) (va_Qv (fun (_ : Unit) => False) (fun (_ : Unit) _ => True) (aw_Z N0)) (vx_X (fun (_ : Unit) => True) (fun E (_ : Unit) t => E = "java/lang/IllegalStateException" ∧ aw_H D g ad G M F N0 t.heap) (aw_Z N0)) 1 6 (aw_Z N0) := by
  refine vx_ofW (cc := b_Ru_block) (maxL := 6) (ret := (some .long)) (by decide) rfl ?_
  intro p e s m args below meth c s₁ B hml hex hv
  obtain ⟨rfl, ⟨L, hP, hD, hSh⟩, hU⟩ := hv
  have hx := B.exec
  have hb := B.bytes
  have hr := B.returns
  have hG : ∀ w ∈ aw_G, w.before _ s = true := fun w h => atoms_spec (ws := ws_Ru_blockXs) B.pre w (List.mem_cons_of_mem _ h)
  have hown : s.vm.findClass "RuleCiphers" = some m.cls := findClass_of_methodNamed B.named
  have hlocks := B.notSynchronized
  have hE := hU.1
  have hK := hE.1
  have hN := hE.2.1
  have hS : va_S (aw_Z N0) s.heap s.heap [] := va_S.rf
  have hl := lv_entry ([.ref (aw_r ad 0), .int (nI j), .int bk, .long b] : List Value) (n := 6) (Nat.le_of_ble_eq_true rfl)
  rw [lg_entry_eq]
  generalize (lg_sl ([.ref (aw_r ad 0), .int (nI j), .int bk, .long b] : List Value) ++ List.replicate (6 - (lg_sl ([.ref (aw_r ad 0), .int (nI j), .int bk, .long b] : List Value)).length) Slot.unset).toArray = ls at hl ⊢
  have hl : lv_has ls 6 [(0, .ref (aw_r ad 0)), (1, .int (nI j)), (2, .int bk), (3, .long b)] := hl
  refine lv_aload_n hx hb d_Ru_block_0 rfl (lv_at hl 0 rfl) ?_
  refine lv_iload_n hx hb d_Ru_block_1 rfl (lv_at hl 1 rfl) ?_
  have he1 := rd_R0 hSh
  refine va_callr (va_runV (As := [.int (nI j)]) (rest := []) ⟨hx, hb, hml, hown, hG⟩ (k_Ru_contextAt1 l D g ad G M F N0 j hj) (aw_wV 1 hG gw_2_47 gw_2_45 gw_0_1 gw_2_46 gw_p_0 rfl rfl hd_Ru_contextAt ⟨Nat.le_of_ble_eq_true rfl, Nat.le_of_ble_eq_true rfl⟩) (aw_qV (va_recv hK hP rfl he1) hP hD hSh hU hS) rfl rfl hl.1 rfl (lv_room (Nat.le_of_ble_eq_true rfl)) d_Ru_block_2 ⟨Nat.le_of_ble_eq_true rfl, Nat.le_of_ble_eq_true rfl⟩) hS (fun _ _ h => h) (fun _ h => h) (fun u8 q2 t8 H locs ht _ _ hB _ _ hS => ?_)
  obtain ⟨eq2, hB⟩ := hB
  obtain ⟨L, hP, hD, hSh⟩ := hB
  rw [ht] at hP
  clear ht
  subst eq2
  refine lv_astore hx hb d_Ru_block_5 hl (by decide) rfl (fun ls hl => ?_)
  have hl : lv_has ls 6 [(5, .ref (aw_c ad j 0)), (0, .ref (aw_r ad 0)), (1, .int (nI j)), (2, .int bk), (3, .long b)] := hl
  refine lv_aload hx hb d_Ru_block_7 (lv_at hl 0 rfl) ?_
  refine vx_callv (vx_runS (As := [.ref (aw_c ad j 0)]) (rest := []) ⟨hx, hb, hml, hown, hG⟩ (k_Ru_requireKeyX l hst D g ad G M F N0 j hj hs) (aw_wS 1 hG gw_5_30 gw_5_28 gw_0_1 gw_5_29 rfl rfl hd_Ru_requireKey ⟨Nat.le_of_ble_eq_true rfl, Nat.le_of_ble_eq_true rfl⟩) (aw_qS hP hD hSh hU hS) rfl rfl hl.1 rfl (lv_room (Nat.le_of_ble_eq_true rfl)) d_Ru_block_9 ⟨Nat.le_of_ble_eq_true rfl, Nat.le_of_ble_eq_true rfl⟩) hS (fun _ _ h => h) (fun _ h => h) (fun _ _ h => h) (fun E ce q9 u t H locs ht _ _ hBX _ _ hS hce hcv hcl => ?_) (fun u t H locs _ _ hF _ _ _ _ => hF.elim)
  obtain ⟨rfl, L, hP, hD, hSh⟩ := hBX
  rw [ht] at hP
  exact vx_out (fun x h => (hex x h).elim) hlocks hce hcv hcl (fun t9 ht9 _ => ⟨(), trivial, ⟨rfl, aw_Hr ht9 hP hD hSh⟩, hS.F ht9⟩) hS.2.2 (Nat.le_of_ble_eq_true rfl) (Nat.le_of_ble_eq_true rfl)
abbrev ws_Ru_word1 : List Cond := Cond.code y_Ru_word b_Ru_word 4 (some .int) :: aw_G
abbrev rm_Ru_word1 : Room := { frames := 1, cells := 0, slots := 0, locals := 21 }
set_option maxHeartbeats 4000000 in
set_option maxRecDepth 100000 in
theorem k_Ru_word1 (l : Launch) (D : va_G) (g : Nat → ClassId) (ad : Nat → Nat) (G M : Nat → Nat × Nat) (F : Int32) (N0 : Nat) (j : Nat) (i : Int32) (hj : j < 4) (hs : 2 ≤ (G j).1) : Met l y_Ru_word ws_Ru_word1 rm_Ru_word1 (va_Pc ([.ref (aw_r ad 0), .int (nI j), .int i] : List Value) (aw_B D g ad G M F N0)) (va_Qi (fun r (_ : Unit) => True) (fun (_ : Unit) t => aw_H D g ad G M F N0 t.heap) (aw_Z N0)) 0 0 (aw_Z N0) := by
  refine Met.ofW (cc := b_Ru_word) (maxL := 4) (ret := (some .int)) (by decide) rfl ?_
  intro p e s m args below meth c s₁ B hml hv
  obtain ⟨rfl, ⟨L, hP, hD, hSh⟩, hU⟩ := hv
  have hx := B.exec
  have hb := B.bytes
  have hr := B.returns
  have hG : ∀ w ∈ aw_G, w.before _ s = true := fun w h => atoms_spec (ws := ws_Ru_word1) B.pre w (List.mem_cons_of_mem _ h)
  have hown : s.vm.findClass "RuleCiphers" = some m.cls := findClass_of_methodNamed B.named
  have hlocks := B.notSynchronized
  have hE := hU.1
  have hK := hE.1
  have hN := hE.2.1
  have hS : va_S (aw_Z N0) s.heap s.heap [] := va_S.rf
  have hl := lv_entry ([.ref (aw_r ad 0), .int (nI j), .int i] : List Value) (n := 4) (Nat.le_of_ble_eq_true rfl)
  rw [lg_entry_eq]
  generalize (lg_sl ([.ref (aw_r ad 0), .int (nI j), .int i] : List Value) ++ List.replicate (4 - (lg_sl ([.ref (aw_r ad 0), .int (nI j), .int i] : List Value)).length) Slot.unset).toArray = ls at hl ⊢
  have hl : lv_has ls 4 [(0, .ref (aw_r ad 0)), (1, .int (nI j)), (2, .int i)] := hl
  refine lv_aload_n hx hb d_Ru_word_0 rfl (lv_at hl 0 rfl) ?_
  refine lv_iload_n hx hb d_Ru_word_1 rfl (lv_at hl 1 rfl) ?_
  have he1 := rd_R0 hSh
  refine va_callr (va_runV (As := [.int (nI j)]) (rest := []) ⟨hx, hb, hml, hown, hG⟩ (k_Ru_contextAt1 l D g ad G M F N0 j hj) (aw_wV 1 hG gw_2_47 gw_2_45 gw_0_1 gw_2_46 gw_p_0 rfl rfl hd_Ru_contextAt ⟨Nat.le_of_ble_eq_true rfl, Nat.le_of_ble_eq_true rfl⟩) (aw_qV (va_recv hK hP rfl he1) hP hD hSh hU hS) rfl rfl hl.1 rfl (lv_room (Nat.le_of_ble_eq_true rfl)) d_Ru_word_2 ⟨Nat.le_of_ble_eq_true rfl, Nat.le_of_ble_eq_true rfl⟩) hS (fun _ _ h => h) (fun _ h => h) (fun u8 q2 t8 H locs ht _ _ hB _ _ hS => ?_)
  obtain ⟨eq2, hB⟩ := hB
  obtain ⟨L, hP, hD, hSh⟩ := hB
  rw [ht] at hP
  clear ht
  subst eq2
  refine lv_astore_n hx hb d_Ru_word_5 rfl hl (by decide) rfl (fun ls hl => ?_)
  have hl : lv_has ls 4 [(3, .ref (aw_c ad j 0)), (0, .ref (aw_r ad 0)), (1, .int (nI j)), (2, .int i)] := hl
  refine lv_aload_n hx hb d_Ru_word_6 rfl (lv_at hl 0 rfl) ?_
  refine va_callv (va_runS (As := [.ref (aw_c ad j 0)]) (rest := []) ⟨hx, hb, hml, hown, hG⟩ (k_Ru_requireKey1 l D g ad G M F N0 j hj hs) (aw_wS 1 hG gw_5_30 gw_5_28 gw_0_1 gw_5_29 rfl rfl hd_Ru_requireKey ⟨Nat.le_of_ble_eq_true rfl, Nat.le_of_ble_eq_true rfl⟩) (aw_qS hP hD hSh hU hS) rfl rfl hl.1 rfl (lv_room (Nat.le_of_ble_eq_true rfl)) d_Ru_word_7 ⟨Nat.le_of_ble_eq_true rfl, Nat.le_of_ble_eq_true rfl⟩) hS (fun _ _ h => h) (fun _ h => h) (fun u8 t8 H locs ht _ _ hB _ _ hS => ?_)
  obtain ⟨L, hP, hD, hSh⟩ := hB
  rw [ht] at hP
  clear ht
  refine lv_aload_n hx hb d_Ru_word_10 rfl (lv_at hl 0 rfl) ?_
  obtain ⟨o4, y5, y6, y7, x8, x9, ho10, he3⟩ := rd_C0 hSh hj
  have hg := hSh.2.2.2.2.1 j hj
  refine va_get (C := R_Cx) (T := T_Cx) (N := 10) (v := .ref (aw_c ad j o4)) hx hb hG in_Cx hown hK hP (3 + 16 * j + 0) he3 rfl 4 (by decide) (hG _ gw_2_1) (fun _ h => h) rfl d_Ru_word_11 ?_
  refine lv_iload_n hx hb d_Ru_word_14 rfl (lv_at hl 3 rfl) ?_
  have hrun11 : va_Run p l e (headSpec ws_Ru_word1 rm_Ru_word1).room s m ([.ref (aw_r ad 0), .int (nI j), .int i] : List Value).toArray below meth c H locs 0 0 0 0 (F0 m 15 ls [.int i, .ref (aw_c ad j o4)]) [] (va_Qi (fun r (_ : Unit) => True) (fun (_ : Unit) t => aw_H D g ad G M F N0 t.heap) (aw_Z N0) ([.ref (aw_c ad j o4), .int i] : List Value).toArray) (aw_Z N0) := by
    rcases ho10 with rfl | rfl | rfl | rfl | rfl
    · have he12 := rd_C2 hSh hj
      exact va_runU (As := [.int i]) (rest := []) ⟨hx, hb, hml, hown, hG⟩ (k_Ci_wordAt l D g ad G M F N0 j 2 i hj (by unfold aw_cof; omega)) (aw_wU (owner := "RuleCiphers$Cipher") 1 hG gw_7_22 gw_7_14 gw_7_16 gw_7_18 gw_7_15 gw_0_3 rfl rfl rfl hd_Ci_wordAt ⟨Nat.le_of_ble_eq_true rfl, Nat.le_of_ble_eq_true rfl⟩) (aw_qV (va_recv hK hP rfl he12) hP hD hSh hU hS) rfl rfl hl.1 rfl (lv_room (Nat.le_of_ble_eq_true rfl)) d_Ru_word_15 ⟨Nat.le_of_ble_eq_true rfl, Nat.le_of_ble_eq_true rfl⟩
    · have he13 := rd_C5 hSh hj
      exact va_runU (As := [.int i]) (rest := []) ⟨hx, hb, hml, hown, hG⟩ (k_Ci_wordAt l D g ad G M F N0 j 5 i hj (by unfold aw_cof; omega)) (aw_wU (owner := "RuleCiphers$Cipher") 1 hG gw_7_22 gw_7_14 gw_7_16 gw_7_21 gw_7_15 gw_0_3 rfl rfl rfl hd_Ci_wordAt ⟨Nat.le_of_ble_eq_true rfl, Nat.le_of_ble_eq_true rfl⟩) (aw_qV (va_recv hK hP rfl he13) hP hD hSh hU hS) rfl rfl hl.1 rfl (lv_room (Nat.le_of_ble_eq_true rfl)) d_Ru_word_15 ⟨Nat.le_of_ble_eq_true rfl, Nat.le_of_ble_eq_true rfl⟩
    · have he14 := rd_C7 hSh hj
      exact va_runU (As := [.int i]) (rest := []) ⟨hx, hb, hml, hown, hG⟩ (k_Ci_wordAt l D g ad G M F N0 j 7 i hj (by unfold aw_cof; omega)) (aw_wU (owner := "RuleCiphers$Cipher") 1 hG gw_7_22 gw_7_14 gw_7_16 gw_7_20 gw_7_15 gw_0_3 rfl rfl rfl hd_Ci_wordAt ⟨Nat.le_of_ble_eq_true rfl, Nat.le_of_ble_eq_true rfl⟩) (aw_qV (va_recv hK hP rfl he14) hP hD hSh hU hS) rfl rfl hl.1 rfl (lv_room (Nat.le_of_ble_eq_true rfl)) d_Ru_word_15 ⟨Nat.le_of_ble_eq_true rfl, Nat.le_of_ble_eq_true rfl⟩
    · have he15 := rd_C10 hSh hj
      exact va_runU (As := [.int i]) (rest := []) ⟨hx, hb, hml, hown, hG⟩ (k_Ci_wordAt l D g ad G M F N0 j 10 i hj (by unfold aw_cof; omega)) (aw_wU (owner := "RuleCiphers$Cipher") 1 hG gw_7_22 gw_7_14 gw_7_16 gw_7_19 gw_7_15 gw_0_3 rfl rfl rfl hd_Ci_wordAt ⟨Nat.le_of_ble_eq_true rfl, Nat.le_of_ble_eq_true rfl⟩) (aw_qV (va_recv hK hP rfl he15) hP hD hSh hU hS) rfl rfl hl.1 rfl (lv_room (Nat.le_of_ble_eq_true rfl)) d_Ru_word_15 ⟨Nat.le_of_ble_eq_true rfl, Nat.le_of_ble_eq_true rfl⟩
    · have he16 := rd_C12 hSh hj
      exact va_runU (As := [.int i]) (rest := []) ⟨hx, hb, hml, hown, hG⟩ (k_Ci_wordAt l D g ad G M F N0 j 12 i hj (by unfold aw_cof; omega)) (aw_wU (owner := "RuleCiphers$Cipher") 1 hG gw_7_22 gw_7_14 gw_7_16 gw_7_17 gw_7_15 gw_0_3 rfl rfl rfl hd_Ci_wordAt ⟨Nat.le_of_ble_eq_true rfl, Nat.le_of_ble_eq_true rfl⟩) (aw_qV (va_recv hK hP rfl he16) hP hD hSh hU hS) rfl rfl hl.1 rfl (lv_room (Nat.le_of_ble_eq_true rfl)) d_Ru_word_15 ⟨Nat.le_of_ble_eq_true rfl, Nat.le_of_ble_eq_true rfl⟩
  refine va_calli hrun11 hS (fun _ _ h => h) (fun _ h => h) (fun x17 u8 t8 H locs ht _ _ hB _ _ hS => ?_)
  obtain ⟨L, hP, hD, hSh⟩ := hB
  rw [ht] at hP
  clear ht
  exact W.iret hx hb hr (fun t ht hW => ⟨⟨_, (), rfl, trivial, aw_Hr ht hP hD hSh⟩, hS.F ht⟩) hS.2.2 d_Ru_word_18
abbrev ws_Ru_wordXc : List Cond := Cond.code y_Ru_word b_Ru_word 4 (some .int) :: aw_G
abbrev rm_Ru_wordXc : Room := { frames := 7, cells := 1, slots := 6, locals := 111 }
set_option maxHeartbeats 4000000 in
set_option maxRecDepth 100000 in
theorem k_Ru_wordXc (l : Launch) (hst : l.stackTraces = false) (D : va_G) (g : Nat → ClassId) (ad : Nat → Nat) (G M : Nat → Nat × Nat) (F : Int32) (N0 : Nat) (c0 : Int32) (i : Int32) (hc : c0 < 0 ∨ (¬ c0 < 0 ∧ ¬ c0 < nI 4)) : vx_Met l y_Ru_word ws_Ru_wordXc rm_Ru_wordXc (va_Pc ([.ref (aw_r ad 0), .int c0, .int i] : List Value) (aw_B D g ad G M F N0)) (va_Qv (fun (_ : Unit) => False) (fun (_ : Unit) _ => True) (aw_Z N0)) (vx_X (fun (_ : Unit) => True) (fun E (_ : Unit) t => E = "java/lang/IndexOutOfBoundsException" ∧ aw_H D g ad G M F N0 t.heap) (aw_Z N0)) 1 6 (aw_Z N0) := by
  refine vx_ofW (cc := b_Ru_word) (maxL := 4) (ret := (some .int)) (by decide) rfl ?_
  intro p e s m args below meth c s₁ B hml hex hv
  obtain ⟨rfl, ⟨L, hP, hD, hSh⟩, hU⟩ := hv
  have hx := B.exec
  have hb := B.bytes
  have hr := B.returns
  have hG : ∀ w ∈ aw_G, w.before _ s = true := fun w h => atoms_spec (ws := ws_Ru_wordXc) B.pre w (List.mem_cons_of_mem _ h)
  have hown : s.vm.findClass "RuleCiphers" = some m.cls := findClass_of_methodNamed B.named
  have hlocks := B.notSynchronized
  have hE := hU.1
  have hK := hE.1
  have hN := hE.2.1
  have hS : va_S (aw_Z N0) s.heap s.heap [] := va_S.rf
  have hl := lv_entry ([.ref (aw_r ad 0), .int c0, .int i] : List Value) (n := 4) (Nat.le_of_ble_eq_true rfl)
  rw [lg_entry_eq]
  generalize (lg_sl ([.ref (aw_r ad 0), .int c0, .int i] : List Value) ++ List.replicate (4 - (lg_sl ([.ref (aw_r ad 0), .int c0, .int i] : List Value)).length) Slot.unset).toArray = ls at hl ⊢
  have hl : lv_has ls 4 [(0, .ref (aw_r ad 0)), (1, .int c0), (2, .int i)] := hl
  refine lv_aload_n hx hb d_Ru_word_0 rfl (lv_at hl 0 rfl) ?_
  refine lv_iload_n hx hb d_Ru_word_1 rfl (lv_at hl 1 rfl) ?_
  have he1 := rd_R0 hSh
  refine vx_callv (vx_runV (As := [.int c0]) (rest := []) ⟨hx, hb, hml, hown, hG⟩ (k_Ru_contextAtX l hst D g ad G M F N0 c0 hc) (aw_wV 1 hG gw_2_47 gw_2_45 gw_0_1 gw_2_46 gw_p_0 rfl rfl hd_Ru_contextAt ⟨Nat.le_of_ble_eq_true rfl, Nat.le_of_ble_eq_true rfl⟩) (aw_qV (va_recv hK hP rfl he1) hP hD hSh hU hS) rfl rfl hl.1 rfl (lv_room (Nat.le_of_ble_eq_true rfl)) d_Ru_word_2 ⟨Nat.le_of_ble_eq_true rfl, Nat.le_of_ble_eq_true rfl⟩) hS (fun _ _ h => h) (fun _ h => h) (fun _ _ h => h) (fun E ce q9 u t H locs ht _ _ hBX _ _ hS hce hcv hcl => ?_) (fun u t H locs _ _ hF _ _ _ _ => hF.elim)
  obtain ⟨rfl, L, hP, hD, hSh⟩ := hBX
  rw [ht] at hP
  exact vx_out (fun x h => (hex x h).elim) hlocks hce hcv hcl (fun t9 ht9 _ => ⟨(), trivial, ⟨rfl, aw_Hr ht9 hP hD hSh⟩, hS.F ht9⟩) hS.2.2 (Nat.le_of_ble_eq_true rfl) (Nat.le_of_ble_eq_true rfl)
abbrev ws_Ru_wordXs : List Cond := Cond.code y_Ru_word b_Ru_word 4 (some .int) :: aw_G
abbrev rm_Ru_wordXs : Room := { frames := 7, cells := 1, slots := 6, locals := 110 }
set_option maxHeartbeats 4000000 in
set_option maxRecDepth 100000 in
theorem k_Ru_wordXs (l : Launch) (hst : l.stackTraces = false) (D : va_G) (g : Nat → ClassId) (ad : Nat → Nat) (G M : Nat → Nat × Nat) (F : Int32) (N0 : Nat) (j : Nat) (i : Int32) (hj : j < 4) (hs : (G j).1 ≤ 1) : vx_Met l y_Ru_word ws_Ru_wordXs rm_Ru_wordXs (va_Pc ([.ref (aw_r ad 0), .int (nI j), .int i] : List Value) (aw_B D g ad G M F N0)) (va_Qv (fun (_ : Unit) => False) (fun (_ : Unit) _ => True) (aw_Z N0)) (vx_X (fun (_ : Unit) => True) (fun E (_ : Unit) t => E = "java/lang/IllegalStateException" ∧ aw_H D g ad G M F N0 t.heap) (aw_Z N0)) 1 6 (aw_Z N0) := by
  refine vx_ofW (cc := b_Ru_word) (maxL := 4) (ret := (some .int)) (by decide) rfl ?_
  intro p e s m args below meth c s₁ B hml hex hv
  obtain ⟨rfl, ⟨L, hP, hD, hSh⟩, hU⟩ := hv
  have hx := B.exec
  have hb := B.bytes
  have hr := B.returns
  have hG : ∀ w ∈ aw_G, w.before _ s = true := fun w h => atoms_spec (ws := ws_Ru_wordXs) B.pre w (List.mem_cons_of_mem _ h)
  have hown : s.vm.findClass "RuleCiphers" = some m.cls := findClass_of_methodNamed B.named
  have hlocks := B.notSynchronized
  have hE := hU.1
  have hK := hE.1
  have hN := hE.2.1
  have hS : va_S (aw_Z N0) s.heap s.heap [] := va_S.rf
  have hl := lv_entry ([.ref (aw_r ad 0), .int (nI j), .int i] : List Value) (n := 4) (Nat.le_of_ble_eq_true rfl)
  rw [lg_entry_eq]
  generalize (lg_sl ([.ref (aw_r ad 0), .int (nI j), .int i] : List Value) ++ List.replicate (4 - (lg_sl ([.ref (aw_r ad 0), .int (nI j), .int i] : List Value)).length) Slot.unset).toArray = ls at hl ⊢
  have hl : lv_has ls 4 [(0, .ref (aw_r ad 0)), (1, .int (nI j)), (2, .int i)] := hl
  refine lv_aload_n hx hb d_Ru_word_0 rfl (lv_at hl 0 rfl) ?_
  refine lv_iload_n hx hb d_Ru_word_1 rfl (lv_at hl 1 rfl) ?_
  have he1 := rd_R0 hSh
  refine va_callr (va_runV (As := [.int (nI j)]) (rest := []) ⟨hx, hb, hml, hown, hG⟩ (k_Ru_contextAt1 l D g ad G M F N0 j hj) (aw_wV 1 hG gw_2_47 gw_2_45 gw_0_1 gw_2_46 gw_p_0 rfl rfl hd_Ru_contextAt ⟨Nat.le_of_ble_eq_true rfl, Nat.le_of_ble_eq_true rfl⟩) (aw_qV (va_recv hK hP rfl he1) hP hD hSh hU hS) rfl rfl hl.1 rfl (lv_room (Nat.le_of_ble_eq_true rfl)) d_Ru_word_2 ⟨Nat.le_of_ble_eq_true rfl, Nat.le_of_ble_eq_true rfl⟩) hS (fun _ _ h => h) (fun _ h => h) (fun u8 q2 t8 H locs ht _ _ hB _ _ hS => ?_)
  obtain ⟨eq2, hB⟩ := hB
  obtain ⟨L, hP, hD, hSh⟩ := hB
  rw [ht] at hP
  clear ht
  subst eq2
  refine lv_astore_n hx hb d_Ru_word_5 rfl hl (by decide) rfl (fun ls hl => ?_)
  have hl : lv_has ls 4 [(3, .ref (aw_c ad j 0)), (0, .ref (aw_r ad 0)), (1, .int (nI j)), (2, .int i)] := hl
  refine lv_aload_n hx hb d_Ru_word_6 rfl (lv_at hl 0 rfl) ?_
  refine vx_callv (vx_runS (As := [.ref (aw_c ad j 0)]) (rest := []) ⟨hx, hb, hml, hown, hG⟩ (k_Ru_requireKeyX l hst D g ad G M F N0 j hj hs) (aw_wS 1 hG gw_5_30 gw_5_28 gw_0_1 gw_5_29 rfl rfl hd_Ru_requireKey ⟨Nat.le_of_ble_eq_true rfl, Nat.le_of_ble_eq_true rfl⟩) (aw_qS hP hD hSh hU hS) rfl rfl hl.1 rfl (lv_room (Nat.le_of_ble_eq_true rfl)) d_Ru_word_7 ⟨Nat.le_of_ble_eq_true rfl, Nat.le_of_ble_eq_true rfl⟩) hS (fun _ _ h => h) (fun _ h => h) (fun _ _ h => h) (fun E ce q9 u t H locs ht _ _ hBX _ _ hS hce hcv hcl => ?_) (fun u t H locs _ _ hF _ _ _ _ => hF.elim)
  obtain ⟨rfl, L, hP, hD, hSh⟩ := hBX
  rw [ht] at hP
  exact vx_out (fun x h => (hex x h).elim) hlocks hce hcv hcl (fun t9 ht9 _ => ⟨(), trivial, ⟨rfl, aw_Hr ht9 hP hD hSh⟩, hS.F ht9⟩) hS.2.2 (Nat.le_of_ble_eq_true rfl) (Nat.le_of_ble_eq_true rfl)
abbrev ws_Ru_put1 : List Cond := Cond.code y_Ru_put b_Ru_put 3 none :: aw_G
abbrev rm_Ru_put1 : Room := { frames := 1, cells := 0, slots := 0, locals := 20 }
set_option maxHeartbeats 4000000 in
set_option maxRecDepth 100000 in
theorem k_Ru_put1 (l : Launch) (D : va_G) (g : Nat → ClassId) (ad : Nat → Nat) (G M : Nat → Nat × Nat) (F : Int32) (N0 : Nat) (k : Nat) (b : Int32) (hk : k < 64) : Met l y_Ru_put ws_Ru_put1 rm_Ru_put1 (va_Pc ([.ref (aw_r ad 0), .int (nI k), .int b] : List Value) (aw_B D g ad G M F N0)) (va_Qv (fun (_ : Unit) => True) (fun (_ : Unit) t => aw_H D g ad G M F N0 t.heap) (aw_Z N0)) 0 0 (aw_Z N0) := by
  refine Met.ofW (cc := b_Ru_put) (maxL := 3) (ret := none) (by decide) rfl ?_
  intro p e s m args below meth c s₁ B hml hv
  obtain ⟨rfl, ⟨L, hP, hD, hSh⟩, hU⟩ := hv
  have hx := B.exec
  have hb := B.bytes
  have hr := B.returns
  have hG : ∀ w ∈ aw_G, w.before _ s = true := fun w h => atoms_spec (ws := ws_Ru_put1) B.pre w (List.mem_cons_of_mem _ h)
  have hown : s.vm.findClass "RuleCiphers" = some m.cls := findClass_of_methodNamed B.named
  have hlocks := B.notSynchronized
  have hE := hU.1
  have hK := hE.1
  have hN := hE.2.1
  have hS : va_S (aw_Z N0) s.heap s.heap [] := va_S.rf
  have hl := lv_entry ([.ref (aw_r ad 0), .int (nI k), .int b] : List Value) (n := 3) (Nat.le_of_ble_eq_true rfl)
  rw [lg_entry_eq]
  generalize (lg_sl ([.ref (aw_r ad 0), .int (nI k), .int b] : List Value) ++ List.replicate (3 - (lg_sl ([.ref (aw_r ad 0), .int (nI k), .int b] : List Value)).length) Slot.unset).toArray = ls at hl ⊢
  have hl : lv_has ls 3 [(0, .ref (aw_r ad 0)), (1, .int (nI k)), (2, .int b)] := hl
  refine lv_iload_n hx hb d_Ru_put_0 rfl (lv_at hl 1 rfl) ?_
  refine aw_cv ((va_runS (As := [.int (nI k)]) (rest := []) ⟨hx, hb, hml, hown, hG⟩ (k_Ru_requirePlace1 l k hk) (aw_wS 1 hG gw_7_32 gw_7_30 gw_0_1 gw_7_31 rfl rfl hd_Ru_requirePlace ⟨Nat.le_of_ble_eq_true rfl, Nat.le_of_ble_eq_true rfl⟩) aw_p0 rfl rfl hl.1 rfl (lv_room (Nat.le_of_ble_eq_true rfl)) d_Ru_put_1 ⟨Nat.le_of_ble_eq_true rfl, Nat.le_of_ble_eq_true rfl⟩).run) ?_
  refine lv_aload_n hx hb d_Ru_put_4 rfl (lv_at hl 0 rfl) ?_
  have he1 := rd_R0 hSh
  refine va_get (C := R_Ru) (T := T_Ru) (N := 2) (v := .ref (aw_r ad 2)) hx hb hG in_Ru hown hK hP 0 he1 rfl 1 (by decide) (hG _ gw_2_29) (fun _ h => h) rfl d_Ru_put_5 ?_
  refine lv_iload_n hx hb d_Ru_put_8 rfl (lv_at hl 1 rfl) ?_
  refine lv_iload_n hx hb d_Ru_put_9 rfl (lv_at hl 2 rfl) ?_
  refine lv_sipush (v := nI 255) hx hb d_Ru_put_10 (by decide +kernel) ?_
  refine lv_iand hx hb d_Ru_put_13 ?_
  obtain ⟨k2, hk2, ek2⟩ := pk_andE b (m := nI 255) 8 (by decide +kernel)
  refine aw_ti ek2 ?_
  obtain ⟨f4, he3⟩ := rd_R2 hSh
  refine aw_istI hx hb hK hP hD hS 2 0 he3 rfl (k := k) (by omega) (by decide) d_Ru_put_14 (wr_R2 hSh _) (fun H locs L hP hD hSh hS => ?_)
  exact W.vret hx hb hr (fun t ht hW => ⟨⟨(), rfl, trivial, aw_Hr ht hP hD hSh⟩, hS.F ht⟩) hS.2.2 d_Ru_put_15
abbrev ws_Ru_putX : List Cond := Cond.code y_Ru_put b_Ru_put 3 none :: aw_G
abbrev rm_Ru_putX : Room := { frames := 7, cells := 1, slots := 6, locals := 110 }
set_option maxHeartbeats 4000000 in
set_option maxRecDepth 100000 in
theorem k_Ru_putX (l : Launch) (hst : l.stackTraces = false) (D : va_G) (g : Nat → ClassId) (ad : Nat → Nat) (G M : Nat → Nat × Nat) (F : Int32) (N0 : Nat) (p0 : Int32) (b : Int32) (hc : p0 < 0 ∨ (¬ p0 < 0 ∧ ¬ p0 < nI 64)) : vx_Met l y_Ru_put ws_Ru_putX rm_Ru_putX (va_Pc ([.ref (aw_r ad 0), .int p0, .int b] : List Value) (aw_B D g ad G M F N0)) (va_Qv (fun (_ : Unit) => False) (fun (_ : Unit) _ => True) (aw_Z N0)) (vx_X (fun (_ : Unit) => True) (fun E (_ : Unit) t => E = "java/lang/IndexOutOfBoundsException" ∧ aw_H D g ad G M F N0 t.heap) (aw_Z N0)) 1 6 (aw_Z N0) := by
  refine vx_ofW (cc := b_Ru_put) (maxL := 3) (ret := none) (by decide) rfl ?_
  intro p e s m args below meth c s₁ B hml hex hv
  obtain ⟨rfl, ⟨L, hP, hD, hSh⟩, hU⟩ := hv
  have hx := B.exec
  have hb := B.bytes
  have hr := B.returns
  have hG : ∀ w ∈ aw_G, w.before _ s = true := fun w h => atoms_spec (ws := ws_Ru_putX) B.pre w (List.mem_cons_of_mem _ h)
  have hown : s.vm.findClass "RuleCiphers" = some m.cls := findClass_of_methodNamed B.named
  have hlocks := B.notSynchronized
  have hE := hU.1
  have hK := hE.1
  have hN := hE.2.1
  have hS : va_S (aw_Z N0) s.heap s.heap [] := va_S.rf
  have hl := lv_entry ([.ref (aw_r ad 0), .int p0, .int b] : List Value) (n := 3) (Nat.le_of_ble_eq_true rfl)
  rw [lg_entry_eq]
  generalize (lg_sl ([.ref (aw_r ad 0), .int p0, .int b] : List Value) ++ List.replicate (3 - (lg_sl ([.ref (aw_r ad 0), .int p0, .int b] : List Value)).length) Slot.unset).toArray = ls at hl ⊢
  have hl : lv_has ls 3 [(0, .ref (aw_r ad 0)), (1, .int p0), (2, .int b)] := hl
  refine lv_iload_n hx hb d_Ru_put_0 rfl (lv_at hl 1 rfl) ?_
  refine vx_callv (vx_runS (As := [.int p0]) (rest := []) ⟨hx, hb, hml, hown, hG⟩ (k_Ru_requirePlaceX l hst D g ad G M F N0 p0 hc) (aw_wS 1 hG gw_7_32 gw_7_30 gw_0_1 gw_7_31 rfl rfl hd_Ru_requirePlace ⟨Nat.le_of_ble_eq_true rfl, Nat.le_of_ble_eq_true rfl⟩) (aw_qS hP hD hSh hU hS) rfl rfl hl.1 rfl (lv_room (Nat.le_of_ble_eq_true rfl)) d_Ru_put_1 ⟨Nat.le_of_ble_eq_true rfl, Nat.le_of_ble_eq_true rfl⟩) hS (fun _ _ h => h) (fun _ h => h) (fun _ _ h => h) (fun E ce q9 u t H locs ht _ _ hBX _ _ hS hce hcv hcl => ?_) (fun u t H locs _ _ hF _ _ _ _ => hF.elim)
  obtain ⟨rfl, L, hP, hD, hSh⟩ := hBX
  rw [ht] at hP
  exact vx_out (fun x h => (hex x h).elim) hlocks hce hcv hcl (fun t9 ht9 _ => ⟨(), trivial, ⟨rfl, aw_Hr ht9 hP hD hSh⟩, hS.F ht9⟩) hS.2.2 (Nat.le_of_ble_eq_true rfl) (Nat.le_of_ble_eq_true rfl)
abbrev ws_Ru_get1 : List Cond := Cond.code y_Ru_get b_Ru_get 2 (some .int) :: aw_G
abbrev rm_Ru_get1 : Room := { frames := 1, cells := 0, slots := 0, locals := 20 }
set_option maxHeartbeats 4000000 in
set_option maxRecDepth 100000 in
theorem k_Ru_get1 (l : Launch) (D : va_G) (g : Nat → ClassId) (ad : Nat → Nat) (G M : Nat → Nat × Nat) (F : Int32) (N0 : Nat) (k : Nat) (hk : k < 64) : Met l y_Ru_get ws_Ru_get1 rm_Ru_get1 (va_Pc ([.ref (aw_r ad 0), .int (nI k)] : List Value) (aw_B D g ad G M F N0)) (va_Qi (fun r (_ : Unit) => True) (fun (_ : Unit) t => aw_H D g ad G M F N0 t.heap) (aw_Z N0)) 0 0 (aw_Z N0) := by
  refine Met.ofW (cc := b_Ru_get) (maxL := 2) (ret := (some .int)) (by decide) rfl ?_
  intro p e s m args below meth c s₁ B hml hv
  obtain ⟨rfl, ⟨L, hP, hD, hSh⟩, hU⟩ := hv
  have hx := B.exec
  have hb := B.bytes
  have hr := B.returns
  have hG : ∀ w ∈ aw_G, w.before _ s = true := fun w h => atoms_spec (ws := ws_Ru_get1) B.pre w (List.mem_cons_of_mem _ h)
  have hown : s.vm.findClass "RuleCiphers" = some m.cls := findClass_of_methodNamed B.named
  have hlocks := B.notSynchronized
  have hE := hU.1
  have hK := hE.1
  have hN := hE.2.1
  have hS : va_S (aw_Z N0) s.heap s.heap [] := va_S.rf
  have hl := lv_entry ([.ref (aw_r ad 0), .int (nI k)] : List Value) (n := 2) (Nat.le_of_ble_eq_true rfl)
  rw [lg_entry_eq]
  generalize (lg_sl ([.ref (aw_r ad 0), .int (nI k)] : List Value) ++ List.replicate (2 - (lg_sl ([.ref (aw_r ad 0), .int (nI k)] : List Value)).length) Slot.unset).toArray = ls at hl ⊢
  have hl : lv_has ls 2 [(0, .ref (aw_r ad 0)), (1, .int (nI k))] := hl
  refine lv_iload_n hx hb d_Ru_get_0 rfl (lv_at hl 1 rfl) ?_
  refine aw_cv ((va_runS (As := [.int (nI k)]) (rest := []) ⟨hx, hb, hml, hown, hG⟩ (k_Ru_requirePlace1 l k hk) (aw_wS 1 hG gw_7_32 gw_7_30 gw_0_1 gw_7_31 rfl rfl hd_Ru_requirePlace ⟨Nat.le_of_ble_eq_true rfl, Nat.le_of_ble_eq_true rfl⟩) aw_p0 rfl rfl hl.1 rfl (lv_room (Nat.le_of_ble_eq_true rfl)) d_Ru_get_1 ⟨Nat.le_of_ble_eq_true rfl, Nat.le_of_ble_eq_true rfl⟩).run) ?_
  refine lv_aload_n hx hb d_Ru_get_4 rfl (lv_at hl 0 rfl) ?_
  have he1 := rd_R0 hSh
  refine va_get (C := R_Ru) (T := T_Ru) (N := 2) (v := .ref (aw_r ad 2)) hx hb hG in_Ru hown hK hP 0 he1 rfl 1 (by decide) (hG _ gw_2_29) (fun _ h => h) rfl d_Ru_get_5 ?_
  refine lv_iload_n hx hb d_Ru_get_8 rfl (lv_at hl 1 rfl) ?_
  obtain ⟨f3, he2⟩ := rd_R2 hSh
  refine aw_ild hx hb hK hP 2 0 he2 rfl (k := k) (by omega) (by decide) d_Ru_get_9 ?_
  refine lv_topi (fun x4 _ => ?_)
  exact W.iret hx hb hr (fun t ht hW => ⟨⟨_, (), rfl, trivial, aw_Hr ht hP hD hSh⟩, hS.F ht⟩) hS.2.2 d_Ru_get_10
abbrev ws_Ru_getX : List Cond := Cond.code y_Ru_get b_Ru_get 2 (some .int) :: aw_G
abbrev rm_Ru_getX : Room := { frames := 7, cells := 1, slots := 6, locals := 110 }
set_option maxHeartbeats 4000000 in
set_option maxRecDepth 100000 in
theorem k_Ru_getX (l : Launch) (hst : l.stackTraces = false) (D : va_G) (g : Nat → ClassId) (ad : Nat → Nat) (G M : Nat → Nat × Nat) (F : Int32) (N0 : Nat) (p0 : Int32) (hc : p0 < 0 ∨ (¬ p0 < 0 ∧ ¬ p0 < nI 64)) : vx_Met l y_Ru_get ws_Ru_getX rm_Ru_getX (va_Pc ([.ref (aw_r ad 0), .int p0] : List Value) (aw_B D g ad G M F N0)) (va_Qv (fun (_ : Unit) => False) (fun (_ : Unit) _ => True) (aw_Z N0)) (vx_X (fun (_ : Unit) => True) (fun E (_ : Unit) t => E = "java/lang/IndexOutOfBoundsException" ∧ aw_H D g ad G M F N0 t.heap) (aw_Z N0)) 1 6 (aw_Z N0) := by
  refine vx_ofW (cc := b_Ru_get) (maxL := 2) (ret := (some .int)) (by decide) rfl ?_
  intro p e s m args below meth c s₁ B hml hex hv
  obtain ⟨rfl, ⟨L, hP, hD, hSh⟩, hU⟩ := hv
  have hx := B.exec
  have hb := B.bytes
  have hr := B.returns
  have hG : ∀ w ∈ aw_G, w.before _ s = true := fun w h => atoms_spec (ws := ws_Ru_getX) B.pre w (List.mem_cons_of_mem _ h)
  have hown : s.vm.findClass "RuleCiphers" = some m.cls := findClass_of_methodNamed B.named
  have hlocks := B.notSynchronized
  have hE := hU.1
  have hK := hE.1
  have hN := hE.2.1
  have hS : va_S (aw_Z N0) s.heap s.heap [] := va_S.rf
  have hl := lv_entry ([.ref (aw_r ad 0), .int p0] : List Value) (n := 2) (Nat.le_of_ble_eq_true rfl)
  rw [lg_entry_eq]
  generalize (lg_sl ([.ref (aw_r ad 0), .int p0] : List Value) ++ List.replicate (2 - (lg_sl ([.ref (aw_r ad 0), .int p0] : List Value)).length) Slot.unset).toArray = ls at hl ⊢
  have hl : lv_has ls 2 [(0, .ref (aw_r ad 0)), (1, .int p0)] := hl
  refine lv_iload_n hx hb d_Ru_get_0 rfl (lv_at hl 1 rfl) ?_
  refine vx_callv (vx_runS (As := [.int p0]) (rest := []) ⟨hx, hb, hml, hown, hG⟩ (k_Ru_requirePlaceX l hst D g ad G M F N0 p0 hc) (aw_wS 1 hG gw_7_32 gw_7_30 gw_0_1 gw_7_31 rfl rfl hd_Ru_requirePlace ⟨Nat.le_of_ble_eq_true rfl, Nat.le_of_ble_eq_true rfl⟩) (aw_qS hP hD hSh hU hS) rfl rfl hl.1 rfl (lv_room (Nat.le_of_ble_eq_true rfl)) d_Ru_get_1 ⟨Nat.le_of_ble_eq_true rfl, Nat.le_of_ble_eq_true rfl⟩) hS (fun _ _ h => h) (fun _ h => h) (fun _ _ h => h) (fun E ce q9 u t H locs ht _ _ hBX _ _ hS hce hcv hcl => ?_) (fun u t H locs _ _ hF _ _ _ _ => hF.elim)
  obtain ⟨rfl, L, hP, hD, hSh⟩ := hBX
  rw [ht] at hP
  exact vx_out (fun x h => (hex x h).elim) hlocks hce hcv hcl (fun t9 ht9 _ => ⟨(), trivial, ⟨rfl, aw_Hr ht9 hP hD hSh⟩, hS.F ht9⟩) hS.2.2 (Nat.le_of_ble_eq_true rfl) (Nat.le_of_ble_eq_true rfl)
