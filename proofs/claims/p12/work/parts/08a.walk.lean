abbrev ws_Mo_choose1 : List Cond := Cond.code y_Mo_choose b_Mo_choose 3 none :: aw_G
abbrev rm_Mo_choose1 : Room := { frames := 1, cells := 0, slots := 0, locals := 21 }
set_option maxHeartbeats 4000000 in
set_option maxRecDepth 100000 in
theorem k_Mo_choose1 (l : Launch) (D : va_G) (g : Nat → ClassId) (ad : Nat → Nat) (G M : Nat → Nat × Nat) (F : Int32) (N0 : Nat) (j : Nat) (k : Nat) (hj : j < 4) (hk : k < 5) (hs : (M j).1 = 0) : Met l y_Mo_choose ws_Mo_choose1 rm_Mo_choose1 (va_Pc ([.ref (aw_m ad 0), .int (nI j), .int (nI k)] : List Value) (aw_B D g ad G M F N0)) (va_Qv (fun (_ : Unit) => True) (fun (_ : Unit) t => aw_H D g ad G (aw_g1 M j 1) (nI 0) N0 t.heap) (aw_Z N0)) 0 0 (aw_Z N0) := by
  refine Met.ofW (cc := b_Mo_choose) (maxL := 3) (ret := none) (by decide) rfl ?_
  intro p e s m args below meth c s₁ B hml hv
  obtain ⟨rfl, ⟨L, hP, hD, hSh⟩, hU⟩ := hv
  have hx := B.exec
  have hb := B.bytes
  have hr := B.returns
  have hG : ∀ w ∈ aw_G, w.before _ s = true := fun w h => atoms_spec (ws := ws_Mo_choose1) B.pre w (List.mem_cons_of_mem _ h)
  have hown : s.vm.findClass "RuleCiphersModel" = some m.cls := findClass_of_methodNamed B.named
  have hlocks := B.notSynchronized
  have hE := hU.1
  have hK := hE.1
  have hN := hE.2.1
  have hS : va_S (aw_Z N0) s.heap s.heap [] := va_S.rf
  have hl := lv_entry ([.ref (aw_m ad 0), .int (nI j), .int (nI k)] : List Value) (n := 3) (Nat.le_of_ble_eq_true rfl)
  rw [lg_entry_eq]
  generalize (lg_sl ([.ref (aw_m ad 0), .int (nI j), .int (nI k)] : List Value) ++ List.replicate (3 - (lg_sl ([.ref (aw_m ad 0), .int (nI j), .int (nI k)] : List Value)).length) Slot.unset).toArray = ls at hl ⊢
  have hl : lv_has ls 3 [(0, .ref (aw_m ad 0)), (1, .int (nI j)), (2, .int (nI k))] := hl
  refine lv_aload_n hx hb d_Mo_choose_0 rfl (lv_at hl 0 rfl) ?_
  refine lv_iload_n hx hb d_Mo_choose_1 rfl (lv_at hl 1 rfl) ?_
  refine aw_ci ((va_runS (As := [.int (nI j)]) (rest := [.ref (aw_m ad 0)]) ⟨hx, hb, hml, hown, hG⟩ (k_Mo_isContext1 l j hj) (aw_wS 1 hG gw_10_34 gw_10_32 gw_0_10 gw_10_33 rfl rfl hd_Mo_isContext ⟨Nat.le_of_ble_eq_true rfl, Nat.le_of_ble_eq_true rfl⟩) aw_p0 rfl rfl hl.1 rfl (lv_room (Nat.le_of_ble_eq_true rfl)) d_Mo_choose_2 ⟨Nat.le_of_ble_eq_true rfl, Nat.le_of_ble_eq_true rfl⟩).run) (fun x1 hx1 => ?_)
  subst hx1
  refine lv_if_ne (tgt := 12) hx hb d_Mo_choose_5 (by decide) (fun _ => ?_) (fun h => absurd h (by decide +kernel))
  refine lv_iload_n hx hb d_Mo_choose_12 rfl (lv_at hl 2 rfl) ?_
  refine lv_if_lt (tgt := 21) hx hb d_Mo_choose_13 (by decide) (fun h => absurd h (show ¬ nI k < nI 0 from fun h9 => absurd ((nI_ltI (by omega) (by omega)).mp h9) (by omega))) (fun _ => ?_)
  refine lv_iload_n hx hb d_Mo_choose_16 rfl (lv_at hl 2 rfl) ?_
  refine lv_iconst (v := nI 4) hx hb d_Mo_choose_17 (by decide +kernel) ?_
  refine lv_icmp_le (tgt := 25) hx hb d_Mo_choose_18 (by decide) (fun _ => ?_) (fun h => absurd (show nI k ≤ nI 4 from (nI_leI (by omega) (by omega)).mpr (by omega)) h)
  refine lv_aload_n hx hb d_Mo_choose_25 rfl (lv_at hl 0 rfl) ?_
  obtain ⟨x3, o4, hw5, he2⟩ := rd_M0 hSh
  refine va_get (C := R_Mo) (T := T_Mo) (N := 19) (v := .ref (aw_m ad 2)) hx hb hG in_Mo hown hK hP 67 he2 rfl 2 (by decide) (hG _ gw_9_27) (fun _ h => h) rfl d_Mo_choose_26 ?_
  refine lv_iload_n hx hb d_Mo_choose_29 rfl (lv_at hl 1 rfl) ?_
  obtain ⟨f7, hc8, he6⟩ := rd_M2 hSh
  refine aw_ild hx hb hK hP 69 0 he6 rfl (k := j) (by omega) (by decide) d_Mo_choose_30 ?_
  refine aw_ti (y := nI (M j).1) (hc8 _ (by omega)) ?_
  have hm := hSh.2.2.2.2.2 j (by omega)
  refine lv_if_eq (tgt := 38) hx hb d_Mo_choose_31 (by decide) (fun _ => ?_) (fun h => absurd (show nI ((M j).1) = nI 0 from (nI_eq (by omega) (by omega)).mpr (by omega)) h)
  refine lv_iconst (v := nI 0) hx hb d_Mo_choose_38 (by decide +kernel) ?_
  obtain ⟨_, _, _, he9⟩ := rd_M0 hSh
  refine va_calli (va_runV (As := [.int (nI 0)]) (rest := []) ⟨hx, hb, hml, hown, hG⟩ (k_Mo_refused0 l D g ad G M F N0) (aw_wV 1 hG gw_10_37 gw_10_35 gw_0_10 gw_10_36 gw_p_9 rfl rfl hd_Mo_refused ⟨Nat.le_of_ble_eq_true rfl, Nat.le_of_ble_eq_true rfl⟩) (aw_qV (va_recv hK hP rfl he9) hP hD hSh hU hS) rfl rfl hl.1 rfl (lv_room (Nat.le_of_ble_eq_true rfl)) d_Mo_choose_39 ⟨Nat.le_of_ble_eq_true rfl, Nat.le_of_ble_eq_true rfl⟩) hS (fun _ _ h => h) (fun _ h => h) (fun x10 u8 t8 H locs ht _ hpx10 hB _ _ hS => ?_)
  obtain ⟨L, hP, hD, hSh⟩ := hB
  rw [ht] at hP
  clear ht
  subst hpx10
  refine lv_if_ne (tgt := 59) hx hb d_Mo_choose_42 (by decide) (fun h => absurd (by decide +kernel) h) (fun _ => ?_)
  refine lv_aload_n hx hb d_Mo_choose_45 rfl (lv_at hl 0 rfl) ?_
  obtain ⟨x12, o13, hw14, he11⟩ := rd_M0 hSh
  refine va_get (C := R_Mo) (T := T_Mo) (N := 19) (v := .ref (aw_m ad 2)) hx hb hG in_Mo hown hK hP 67 he11 rfl 2 (by decide) (hG _ gw_9_27) (fun _ h => h) rfl d_Mo_choose_46 ?_
  refine lv_iload_n hx hb d_Mo_choose_49 rfl (lv_at hl 1 rfl) ?_
  refine lv_iconst (v := nI 1) hx hb d_Mo_choose_50 (by decide +kernel) ?_
  obtain ⟨f16, hc17, he15⟩ := rd_M2 hSh
  refine aw_istI hx hb hK hP hD hS 69 0 he15 rfl (k := j) (by omega) (by decide) d_Mo_choose_51 (wr_M2 hSh 1 (by omega) f16 hc17) (fun H locs L hP hD hSh hS => ?_)
  refine lv_aload_n hx hb d_Mo_choose_52 rfl (lv_at hl 0 rfl) ?_
  obtain ⟨x19, o20, hw21, he18⟩ := rd_M0 hSh
  refine va_get (C := R_Mo) (T := T_Mo) (N := 19) (v := .ref (aw_m ad 3)) hx hb hG in_Mo hown hK hP 67 he18 rfl 3 (by decide) (hG _ gw_9_28) (fun _ h => h) rfl d_Mo_choose_53 ?_
  refine lv_iload_n hx hb d_Mo_choose_56 rfl (lv_at hl 1 rfl) ?_
  refine lv_iload_n hx hb d_Mo_choose_57 rfl (lv_at hl 2 rfl) ?_
  obtain ⟨f23, he22⟩ := rd_M3 hSh
  refine aw_istI hx hb hK hP hD hS 70 0 he22 rfl (k := j) (by omega) (by decide) d_Mo_choose_58 (wr_M3 hSh _) (fun H locs L hP hD hSh hS => ?_)
  exact W.vret hx hb hr (fun t ht hW => ⟨⟨(), rfl, trivial, aw_Hr ht hP hD hSh⟩, hS.F ht⟩) hS.2.2 d_Mo_choose_59
abbrev ws_Mo_chooseXc : List Cond := Cond.code y_Mo_choose b_Mo_choose 3 none :: aw_G
abbrev rm_Mo_chooseXc : Room := { frames := 1, cells := 0, slots := 0, locals := 21 }
set_option maxHeartbeats 4000000 in
set_option maxRecDepth 100000 in
theorem k_Mo_chooseXc (l : Launch) (D : va_G) (g : Nat → ClassId) (ad : Nat → Nat) (G M : Nat → Nat × Nat) (F : Int32) (N0 : Nat) (c0 : Int32) (k0 : Int32) (hc : c0 < 0 ∨ (¬ c0 < 0 ∧ ¬ c0 < nI 4)) : Met l y_Mo_choose ws_Mo_chooseXc rm_Mo_chooseXc (va_Pc ([.ref (aw_m ad 0), .int c0, .int k0] : List Value) (aw_B D g ad G M F N0)) (va_Qv (fun (_ : Unit) => True) (fun (_ : Unit) t => aw_H D g ad G M (nI 1) N0 t.heap) (aw_Z N0)) 0 0 (aw_Z N0) := by
  refine Met.ofW (cc := b_Mo_choose) (maxL := 3) (ret := none) (by decide) rfl ?_
  intro p e s m args below meth c s₁ B hml hv
  obtain ⟨rfl, ⟨L, hP, hD, hSh⟩, hU⟩ := hv
  have hx := B.exec
  have hb := B.bytes
  have hr := B.returns
  have hG : ∀ w ∈ aw_G, w.before _ s = true := fun w h => atoms_spec (ws := ws_Mo_chooseXc) B.pre w (List.mem_cons_of_mem _ h)
  have hown : s.vm.findClass "RuleCiphersModel" = some m.cls := findClass_of_methodNamed B.named
  have hlocks := B.notSynchronized
  have hE := hU.1
  have hK := hE.1
  have hN := hE.2.1
  have hS : va_S (aw_Z N0) s.heap s.heap [] := va_S.rf
  have hl := lv_entry ([.ref (aw_m ad 0), .int c0, .int k0] : List Value) (n := 3) (Nat.le_of_ble_eq_true rfl)
  rw [lg_entry_eq]
  generalize (lg_sl ([.ref (aw_m ad 0), .int c0, .int k0] : List Value) ++ List.replicate (3 - (lg_sl ([.ref (aw_m ad 0), .int c0, .int k0] : List Value)).length) Slot.unset).toArray = ls at hl ⊢
  have hl : lv_has ls 3 [(0, .ref (aw_m ad 0)), (1, .int c0), (2, .int k0)] := hl
  refine lv_aload_n hx hb d_Mo_choose_0 rfl (lv_at hl 0 rfl) ?_
  refine lv_iload_n hx hb d_Mo_choose_1 rfl (lv_at hl 1 rfl) ?_
  refine aw_ci ((va_runS (As := [.int c0]) (rest := [.ref (aw_m ad 0)]) ⟨hx, hb, hml, hown, hG⟩ (k_Mo_isContext0 l c0 hc) (aw_wS 1 hG gw_10_34 gw_10_32 gw_0_10 gw_10_33 rfl rfl hd_Mo_isContext ⟨Nat.le_of_ble_eq_true rfl, Nat.le_of_ble_eq_true rfl⟩) aw_p0 rfl rfl hl.1 rfl (lv_room (Nat.le_of_ble_eq_true rfl)) d_Mo_choose_2 ⟨Nat.le_of_ble_eq_true rfl, Nat.le_of_ble_eq_true rfl⟩).run) (fun x1 hx1 => ?_)
  subst hx1
  refine lv_if_ne (tgt := 12) hx hb d_Mo_choose_5 (by decide) (fun h => absurd (by decide +kernel) h) (fun _ => ?_)
  refine lv_iconst (v := nI 1) hx hb d_Mo_choose_8 (by decide +kernel) ?_
  refine lv_goto (tgt := 39) hx hb d_Mo_choose_9 (by decide) ?_
  obtain ⟨_, _, _, he2⟩ := rd_M0 hSh
  refine va_calli (va_runV (As := [.int (nI 1)]) (rest := []) ⟨hx, hb, hml, hown, hG⟩ (k_Mo_refused1 l D g ad G M F N0 1 (by omega)) (aw_wV 1 hG gw_10_37 gw_10_35 gw_0_10 gw_10_36 gw_p_9 rfl rfl hd_Mo_refused ⟨Nat.le_of_ble_eq_true rfl, Nat.le_of_ble_eq_true rfl⟩) (aw_qV (va_recv hK hP rfl he2) hP hD hSh hU hS) rfl rfl hl.1 rfl (lv_room (Nat.le_of_ble_eq_true rfl)) d_Mo_choose_39 ⟨Nat.le_of_ble_eq_true rfl, Nat.le_of_ble_eq_true rfl⟩) hS (fun _ _ h => h) (fun _ h => h) (fun x3 u8 t8 H locs ht _ hpx3 hB _ _ hS => ?_)
  obtain ⟨L, hP, hD, hSh⟩ := hB
  rw [ht] at hP
  clear ht
  subst hpx3
  refine lv_if_ne (tgt := 59) hx hb d_Mo_choose_42 (by decide) (fun _ => ?_) (fun h => absurd h (by decide +kernel))
  exact W.vret hx hb hr (fun t ht hW => ⟨⟨(), rfl, trivial, aw_Hr ht hP hD hSh⟩, hS.F ht⟩) hS.2.2 d_Mo_choose_59
abbrev ws_Mo_chooseXa : List Cond := Cond.code y_Mo_choose b_Mo_choose 3 none :: aw_G
abbrev rm_Mo_chooseXa : Room := { frames := 1, cells := 0, slots := 0, locals := 21 }
set_option maxHeartbeats 4000000 in
set_option maxRecDepth 100000 in
theorem k_Mo_chooseXa (l : Launch) (D : va_G) (g : Nat → ClassId) (ad : Nat → Nat) (G M : Nat → Nat × Nat) (F : Int32) (N0 : Nat) (j : Nat) (k0 : Int32) (hj : j < 4) (hk : k0 < 0 ∨ (¬ k0 < 0 ∧ nI 4 < k0)) : Met l y_Mo_choose ws_Mo_chooseXa rm_Mo_chooseXa (va_Pc ([.ref (aw_m ad 0), .int (nI j), .int k0] : List Value) (aw_B D g ad G M F N0)) (va_Qv (fun (_ : Unit) => True) (fun (_ : Unit) t => aw_H D g ad G M (nI 2) N0 t.heap) (aw_Z N0)) 0 0 (aw_Z N0) := by
  refine Met.ofW (cc := b_Mo_choose) (maxL := 3) (ret := none) (by decide) rfl ?_
  intro p e s m args below meth c s₁ B hml hv
  obtain ⟨rfl, ⟨L, hP, hD, hSh⟩, hU⟩ := hv
  have hx := B.exec
  have hb := B.bytes
  have hr := B.returns
  have hG : ∀ w ∈ aw_G, w.before _ s = true := fun w h => atoms_spec (ws := ws_Mo_chooseXa) B.pre w (List.mem_cons_of_mem _ h)
  have hown : s.vm.findClass "RuleCiphersModel" = some m.cls := findClass_of_methodNamed B.named
  have hlocks := B.notSynchronized
  have hE := hU.1
  have hK := hE.1
  have hN := hE.2.1
  have hS : va_S (aw_Z N0) s.heap s.heap [] := va_S.rf
  have hl := lv_entry ([.ref (aw_m ad 0), .int (nI j), .int k0] : List Value) (n := 3) (Nat.le_of_ble_eq_true rfl)
  rw [lg_entry_eq]
  generalize (lg_sl ([.ref (aw_m ad 0), .int (nI j), .int k0] : List Value) ++ List.replicate (3 - (lg_sl ([.ref (aw_m ad 0), .int (nI j), .int k0] : List Value)).length) Slot.unset).toArray = ls at hl ⊢
  have hl : lv_has ls 3 [(0, .ref (aw_m ad 0)), (1, .int (nI j)), (2, .int k0)] := hl
  rcases hk with hk | hk
  · refine lv_aload_n hx hb d_Mo_choose_0 rfl (lv_at hl 0 rfl) ?_
    refine lv_iload_n hx hb d_Mo_choose_1 rfl (lv_at hl 1 rfl) ?_
    refine aw_ci ((va_runS (As := [.int (nI j)]) (rest := [.ref (aw_m ad 0)]) ⟨hx, hb, hml, hown, hG⟩ (k_Mo_isContext1 l j hj) (aw_wS 1 hG gw_10_34 gw_10_32 gw_0_10 gw_10_33 rfl rfl hd_Mo_isContext ⟨Nat.le_of_ble_eq_true rfl, Nat.le_of_ble_eq_true rfl⟩) aw_p0 rfl rfl hl.1 rfl (lv_room (Nat.le_of_ble_eq_true rfl)) d_Mo_choose_2 ⟨Nat.le_of_ble_eq_true rfl, Nat.le_of_ble_eq_true rfl⟩).run) (fun x1 hx1 => ?_)
    subst hx1
    refine lv_if_ne (tgt := 12) hx hb d_Mo_choose_5 (by decide) (fun _ => ?_) (fun h => absurd h (by decide +kernel))
    refine lv_iload_n hx hb d_Mo_choose_12 rfl (lv_at hl 2 rfl) ?_
    refine lv_if_lt (tgt := 21) hx hb d_Mo_choose_13 (by decide) (fun _ => ?_) (fun h => absurd hk h)
    refine lv_iconst (v := nI 2) hx hb d_Mo_choose_21 (by decide +kernel) ?_
    refine lv_goto (tgt := 39) hx hb d_Mo_choose_22 (by decide) ?_
    obtain ⟨_, _, _, he2⟩ := rd_M0 hSh
    refine va_calli (va_runV (As := [.int (nI 2)]) (rest := []) ⟨hx, hb, hml, hown, hG⟩ (k_Mo_refused1 l D g ad G M F N0 2 (by omega)) (aw_wV 1 hG gw_10_37 gw_10_35 gw_0_10 gw_10_36 gw_p_9 rfl rfl hd_Mo_refused ⟨Nat.le_of_ble_eq_true rfl, Nat.le_of_ble_eq_true rfl⟩) (aw_qV (va_recv hK hP rfl he2) hP hD hSh hU hS) rfl rfl hl.1 rfl (lv_room (Nat.le_of_ble_eq_true rfl)) d_Mo_choose_39 ⟨Nat.le_of_ble_eq_true rfl, Nat.le_of_ble_eq_true rfl⟩) hS (fun _ _ h => h) (fun _ h => h) (fun x3 u8 t8 H locs ht _ hpx3 hB _ _ hS => ?_)
    obtain ⟨L, hP, hD, hSh⟩ := hB
    rw [ht] at hP
    clear ht
    subst hpx3
    refine lv_if_ne (tgt := 59) hx hb d_Mo_choose_42 (by decide) (fun _ => ?_) (fun h => absurd h (by decide +kernel))
    exact W.vret hx hb hr (fun t ht hW => ⟨⟨(), rfl, trivial, aw_Hr ht hP hD hSh⟩, hS.F ht⟩) hS.2.2 d_Mo_choose_59
  · refine lv_aload_n hx hb d_Mo_choose_0 rfl (lv_at hl 0 rfl) ?_
    refine lv_iload_n hx hb d_Mo_choose_1 rfl (lv_at hl 1 rfl) ?_
    refine aw_ci ((va_runS (As := [.int (nI j)]) (rest := [.ref (aw_m ad 0)]) ⟨hx, hb, hml, hown, hG⟩ (k_Mo_isContext1 l j hj) (aw_wS 1 hG gw_10_34 gw_10_32 gw_0_10 gw_10_33 rfl rfl hd_Mo_isContext ⟨Nat.le_of_ble_eq_true rfl, Nat.le_of_ble_eq_true rfl⟩) aw_p0 rfl rfl hl.1 rfl (lv_room (Nat.le_of_ble_eq_true rfl)) d_Mo_choose_2 ⟨Nat.le_of_ble_eq_true rfl, Nat.le_of_ble_eq_true rfl⟩).run) (fun x4 hx4 => ?_)
    subst hx4
    refine lv_if_ne (tgt := 12) hx hb d_Mo_choose_5 (by decide) (fun _ => ?_) (fun h => absurd h (by decide +kernel))
    refine lv_iload_n hx hb d_Mo_choose_12 rfl (lv_at hl 2 rfl) ?_
    refine lv_if_lt (tgt := 21) hx hb d_Mo_choose_13 (by decide) (fun h => absurd h hk.1) (fun _ => ?_)
    refine lv_iload_n hx hb d_Mo_choose_16 rfl (lv_at hl 2 rfl) ?_
    refine lv_iconst (v := nI 4) hx hb d_Mo_choose_17 (by decide +kernel) ?_
    refine lv_icmp_le (tgt := 25) hx hb d_Mo_choose_18 (by decide) (fun h => absurd h (fun h9 => absurd hk.2 (Int32.not_lt.mpr h9))) (fun _ => ?_)
    refine lv_iconst (v := nI 2) hx hb d_Mo_choose_21 (by decide +kernel) ?_
    refine lv_goto (tgt := 39) hx hb d_Mo_choose_22 (by decide) ?_
    obtain ⟨_, _, _, he5⟩ := rd_M0 hSh
    refine va_calli (va_runV (As := [.int (nI 2)]) (rest := []) ⟨hx, hb, hml, hown, hG⟩ (k_Mo_refused1 l D g ad G M F N0 2 (by omega)) (aw_wV 1 hG gw_10_37 gw_10_35 gw_0_10 gw_10_36 gw_p_9 rfl rfl hd_Mo_refused ⟨Nat.le_of_ble_eq_true rfl, Nat.le_of_ble_eq_true rfl⟩) (aw_qV (va_recv hK hP rfl he5) hP hD hSh hU hS) rfl rfl hl.1 rfl (lv_room (Nat.le_of_ble_eq_true rfl)) d_Mo_choose_39 ⟨Nat.le_of_ble_eq_true rfl, Nat.le_of_ble_eq_true rfl⟩) hS (fun _ _ h => h) (fun _ h => h) (fun x6 u8 t8 H locs ht _ hpx6 hB _ _ hS => ?_)
    obtain ⟨L, hP, hD, hSh⟩ := hB
    rw [ht] at hP
    clear ht
    subst hpx6
    refine lv_if_ne (tgt := 59) hx hb d_Mo_choose_42 (by decide) (fun _ => ?_) (fun h => absurd h (by decide +kernel))
    exact W.vret hx hb hr (fun t ht hW => ⟨⟨(), rfl, trivial, aw_Hr ht hP hD hSh⟩, hS.F ht⟩) hS.2.2 d_Mo_choose_59
abbrev ws_Mo_chooseXs : List Cond := Cond.code y_Mo_choose b_Mo_choose 3 none :: aw_G
abbrev rm_Mo_chooseXs : Room := { frames := 1, cells := 0, slots := 0, locals := 21 }
set_option maxHeartbeats 4000000 in
set_option maxRecDepth 100000 in
theorem k_Mo_chooseXs (l : Launch) (D : va_G) (g : Nat → ClassId) (ad : Nat → Nat) (G M : Nat → Nat × Nat) (F : Int32) (N0 : Nat) (j : Nat) (k : Nat) (hj : j < 4) (hk : k < 5) (hs : 1 ≤ (M j).1) : Met l y_Mo_choose ws_Mo_chooseXs rm_Mo_chooseXs (va_Pc ([.ref (aw_m ad 0), .int (nI j), .int (nI k)] : List Value) (aw_B D g ad G M F N0)) (va_Qv (fun (_ : Unit) => True) (fun (_ : Unit) t => aw_H D g ad G M (nI 3) N0 t.heap) (aw_Z N0)) 0 0 (aw_Z N0) := by
  refine Met.ofW (cc := b_Mo_choose) (maxL := 3) (ret := none) (by decide) rfl ?_
  intro p e s m args below meth c s₁ B hml hv
  obtain ⟨rfl, ⟨L, hP, hD, hSh⟩, hU⟩ := hv
  have hx := B.exec
  have hb := B.bytes
  have hr := B.returns
  have hG : ∀ w ∈ aw_G, w.before _ s = true := fun w h => atoms_spec (ws := ws_Mo_chooseXs) B.pre w (List.mem_cons_of_mem _ h)
  have hown : s.vm.findClass "RuleCiphersModel" = some m.cls := findClass_of_methodNamed B.named
  have hlocks := B.notSynchronized
  have hE := hU.1
  have hK := hE.1
  have hN := hE.2.1
  have hS : va_S (aw_Z N0) s.heap s.heap [] := va_S.rf
  have hl := lv_entry ([.ref (aw_m ad 0), .int (nI j), .int (nI k)] : List Value) (n := 3) (Nat.le_of_ble_eq_true rfl)
  rw [lg_entry_eq]
  generalize (lg_sl ([.ref (aw_m ad 0), .int (nI j), .int (nI k)] : List Value) ++ List.replicate (3 - (lg_sl ([.ref (aw_m ad 0), .int (nI j), .int (nI k)] : List Value)).length) Slot.unset).toArray = ls at hl ⊢
  have hl : lv_has ls 3 [(0, .ref (aw_m ad 0)), (1, .int (nI j)), (2, .int (nI k))] := hl
  refine lv_aload_n hx hb d_Mo_choose_0 rfl (lv_at hl 0 rfl) ?_
  refine lv_iload_n hx hb d_Mo_choose_1 rfl (lv_at hl 1 rfl) ?_
  refine aw_ci ((va_runS (As := [.int (nI j)]) (rest := [.ref (aw_m ad 0)]) ⟨hx, hb, hml, hown, hG⟩ (k_Mo_isContext1 l j hj) (aw_wS 1 hG gw_10_34 gw_10_32 gw_0_10 gw_10_33 rfl rfl hd_Mo_isContext ⟨Nat.le_of_ble_eq_true rfl, Nat.le_of_ble_eq_true rfl⟩) aw_p0 rfl rfl hl.1 rfl (lv_room (Nat.le_of_ble_eq_true rfl)) d_Mo_choose_2 ⟨Nat.le_of_ble_eq_true rfl, Nat.le_of_ble_eq_true rfl⟩).run) (fun x1 hx1 => ?_)
  subst hx1
  refine lv_if_ne (tgt := 12) hx hb d_Mo_choose_5 (by decide) (fun _ => ?_) (fun h => absurd h (by decide +kernel))
  refine lv_iload_n hx hb d_Mo_choose_12 rfl (lv_at hl 2 rfl) ?_
  refine lv_if_lt (tgt := 21) hx hb d_Mo_choose_13 (by decide) (fun h => absurd h (show ¬ nI k < nI 0 from fun h9 => absurd ((nI_ltI (by omega) (by omega)).mp h9) (by omega))) (fun _ => ?_)
  refine lv_iload_n hx hb d_Mo_choose_16 rfl (lv_at hl 2 rfl) ?_
  refine lv_iconst (v := nI 4) hx hb d_Mo_choose_17 (by decide +kernel) ?_
  refine lv_icmp_le (tgt := 25) hx hb d_Mo_choose_18 (by decide) (fun _ => ?_) (fun h => absurd (show nI k ≤ nI 4 from (nI_leI (by omega) (by omega)).mpr (by omega)) h)
  refine lv_aload_n hx hb d_Mo_choose_25 rfl (lv_at hl 0 rfl) ?_
  obtain ⟨x3, o4, hw5, he2⟩ := rd_M0 hSh
  refine va_get (C := R_Mo) (T := T_Mo) (N := 19) (v := .ref (aw_m ad 2)) hx hb hG in_Mo hown hK hP 67 he2 rfl 2 (by decide) (hG _ gw_9_27) (fun _ h => h) rfl d_Mo_choose_26 ?_
  refine lv_iload_n hx hb d_Mo_choose_29 rfl (lv_at hl 1 rfl) ?_
  obtain ⟨f7, hc8, he6⟩ := rd_M2 hSh
  refine aw_ild hx hb hK hP 69 0 he6 rfl (k := j) (by omega) (by decide) d_Mo_choose_30 ?_
  refine aw_ti (y := nI (M j).1) (hc8 _ (by omega)) ?_
  have hm := hSh.2.2.2.2.2 j (by omega)
  refine lv_if_eq (tgt := 38) hx hb d_Mo_choose_31 (by decide) (fun h => absurd h (show ¬ nI ((M j).1) = nI 0 from fun h9 => absurd ((nI_eq (by omega) (by omega)).mp h9) (by omega))) (fun _ => ?_)
  refine lv_iconst (v := nI 3) hx hb d_Mo_choose_34 (by decide +kernel) ?_
  refine lv_goto (tgt := 39) hx hb d_Mo_choose_35 (by decide) ?_
  obtain ⟨_, _, _, he9⟩ := rd_M0 hSh
  refine va_calli (va_runV (As := [.int (nI 3)]) (rest := []) ⟨hx, hb, hml, hown, hG⟩ (k_Mo_refused1 l D g ad G M F N0 3 (by omega)) (aw_wV 1 hG gw_10_37 gw_10_35 gw_0_10 gw_10_36 gw_p_9 rfl rfl hd_Mo_refused ⟨Nat.le_of_ble_eq_true rfl, Nat.le_of_ble_eq_true rfl⟩) (aw_qV (va_recv hK hP rfl he9) hP hD hSh hU hS) rfl rfl hl.1 rfl (lv_room (Nat.le_of_ble_eq_true rfl)) d_Mo_choose_39 ⟨Nat.le_of_ble_eq_true rfl, Nat.le_of_ble_eq_true rfl⟩) hS (fun _ _ h => h) (fun _ h => h) (fun x10 u8 t8 H locs ht _ hpx10 hB _ _ hS => ?_)
  obtain ⟨L, hP, hD, hSh⟩ := hB
  rw [ht] at hP
  clear ht
  subst hpx10
  refine lv_if_ne (tgt := 59) hx hb d_Mo_choose_42 (by decide) (fun _ => ?_) (fun h => absurd h (by decide +kernel))
  exact W.vret hx hb hr (fun t ht hW => ⟨⟨(), rfl, trivial, aw_Hr ht hP hD hSh⟩, hS.F ht⟩) hS.2.2 d_Mo_choose_59
abbrev ws_Mo_key1 : List Cond := Cond.code y_Mo_key b_Mo_key 6 none :: aw_G
abbrev rm_Mo_key1 : Room := { frames := 1, cells := 0, slots := 0, locals := 21 }
set_option maxHeartbeats 4000000 in
set_option maxRecDepth 100000 in
theorem k_Mo_key1 (l : Launch) (D : va_G) (g : Nat → ClassId) (ad : Nat → Nat) (G M : Nat → Nat × Nat) (F : Int32) (N0 : Nat) (j : Nat) (a : Int64) (b : Int64) (hj : j < 4) (hs : 1 ≤ (M j).1) : Met l y_Mo_key ws_Mo_key1 rm_Mo_key1 (va_Pc ([.ref (aw_m ad 0), .int (nI j), .long a, .long b] : List Value) (aw_B D g ad G M F N0)) (va_Qv (fun (_ : Unit) => True) (fun (_ : Unit) t => aw_H D g ad G (aw_g1 M j 2) (nI 0) N0 t.heap) (aw_Z N0)) 0 0 (aw_Z N0) := by
  refine Met.ofW (cc := b_Mo_key) (maxL := 6) (ret := none) (by decide) rfl ?_
  intro p e s m args below meth c s₁ B hml hv
  obtain ⟨rfl, ⟨L, hP, hD, hSh⟩, hU⟩ := hv
  have hx := B.exec
  have hb := B.bytes
  have hr := B.returns
  have hG : ∀ w ∈ aw_G, w.before _ s = true := fun w h => atoms_spec (ws := ws_Mo_key1) B.pre w (List.mem_cons_of_mem _ h)
  have hown : s.vm.findClass "RuleCiphersModel" = some m.cls := findClass_of_methodNamed B.named
  have hlocks := B.notSynchronized
  have hE := hU.1
  have hK := hE.1
  have hN := hE.2.1
  have hS : va_S (aw_Z N0) s.heap s.heap [] := va_S.rf
  have hl := lv_entry ([.ref (aw_m ad 0), .int (nI j), .long a, .long b] : List Value) (n := 6) (Nat.le_of_ble_eq_true rfl)
  rw [lg_entry_eq]
  generalize (lg_sl ([.ref (aw_m ad 0), .int (nI j), .long a, .long b] : List Value) ++ List.replicate (6 - (lg_sl ([.ref (aw_m ad 0), .int (nI j), .long a, .long b] : List Value)).length) Slot.unset).toArray = ls at hl ⊢
  have hl : lv_has ls 6 [(0, .ref (aw_m ad 0)), (1, .int (nI j)), (2, .long a), (4, .long b)] := hl
  refine lv_aload_n hx hb d_Mo_key_0 rfl (lv_at hl 0 rfl) ?_
  refine lv_iload_n hx hb d_Mo_key_1 rfl (lv_at hl 1 rfl) ?_
  refine aw_ci ((va_runS (As := [.int (nI j)]) (rest := [.ref (aw_m ad 0)]) ⟨hx, hb, hml, hown, hG⟩ (k_Mo_isContext1 l j hj) (aw_wS 1 hG gw_10_34 gw_10_32 gw_0_10 gw_10_33 rfl rfl hd_Mo_isContext ⟨Nat.le_of_ble_eq_true rfl, Nat.le_of_ble_eq_true rfl⟩) aw_p0 rfl rfl hl.1 rfl (lv_room (Nat.le_of_ble_eq_true rfl)) d_Mo_key_2 ⟨Nat.le_of_ble_eq_true rfl, Nat.le_of_ble_eq_true rfl⟩).run) (fun x1 hx1 => ?_)
  subst hx1
  refine lv_if_ne (tgt := 12) hx hb d_Mo_key_5 (by decide) (fun _ => ?_) (fun h => absurd h (by decide +kernel))
  refine lv_aload_n hx hb d_Mo_key_12 rfl (lv_at hl 0 rfl) ?_
  obtain ⟨x3, o4, hw5, he2⟩ := rd_M0 hSh
  refine va_get (C := R_Mo) (T := T_Mo) (N := 19) (v := .ref (aw_m ad 2)) hx hb hG in_Mo hown hK hP 67 he2 rfl 2 (by decide) (hG _ gw_9_27) (fun _ h => h) rfl d_Mo_key_13 ?_
  refine lv_iload_n hx hb d_Mo_key_16 rfl (lv_at hl 1 rfl) ?_
  obtain ⟨f7, hc8, he6⟩ := rd_M2 hSh
  refine aw_ild hx hb hK hP 69 0 he6 rfl (k := j) (by omega) (by decide) d_Mo_key_17 ?_
  refine aw_ti (y := nI (M j).1) (hc8 _ (by omega)) ?_
  have hm := hSh.2.2.2.2.2 j (by omega)
  refine lv_if_ne (tgt := 25) hx hb d_Mo_key_18 (by decide) (fun _ => ?_) (fun h => absurd h (show ¬ nI ((M j).1) = nI 0 from fun h9 => absurd ((nI_eq (by omega) (by omega)).mp h9) (by omega)))
  refine lv_iconst (v := nI 0) hx hb d_Mo_key_25 (by decide +kernel) ?_
  obtain ⟨_, _, _, he9⟩ := rd_M0 hSh
  refine va_calli (va_runV (As := [.int (nI 0)]) (rest := []) ⟨hx, hb, hml, hown, hG⟩ (k_Mo_refused0 l D g ad G M F N0) (aw_wV 1 hG gw_10_37 gw_10_35 gw_0_10 gw_10_36 gw_p_9 rfl rfl hd_Mo_refused ⟨Nat.le_of_ble_eq_true rfl, Nat.le_of_ble_eq_true rfl⟩) (aw_qV (va_recv hK hP rfl he9) hP hD hSh hU hS) rfl rfl hl.1 rfl (lv_room (Nat.le_of_ble_eq_true rfl)) d_Mo_key_26 ⟨Nat.le_of_ble_eq_true rfl, Nat.le_of_ble_eq_true rfl⟩) hS (fun _ _ h => h) (fun _ h => h) (fun x10 u8 t8 H locs ht _ hpx10 hB _ _ hS => ?_)
  obtain ⟨L, hP, hD, hSh⟩ := hB
  rw [ht] at hP
  clear ht
  subst hpx10
  refine lv_if_ne (tgt := 54) hx hb d_Mo_key_29 (by decide) (fun h => absurd (by decide +kernel) h) (fun _ => ?_)
  refine lv_aload_n hx hb d_Mo_key_32 rfl (lv_at hl 0 rfl) ?_
  obtain ⟨x12, o13, hw14, he11⟩ := rd_M0 hSh
  refine va_get (C := R_Mo) (T := T_Mo) (N := 19) (v := .ref (aw_m ad 2)) hx hb hG in_Mo hown hK hP 67 he11 rfl 2 (by decide) (hG _ gw_9_27) (fun _ h => h) rfl d_Mo_key_33 ?_
  refine lv_iload_n hx hb d_Mo_key_36 rfl (lv_at hl 1 rfl) ?_
  refine lv_iconst (v := nI 2) hx hb d_Mo_key_37 (by decide +kernel) ?_
  obtain ⟨f16, hc17, he15⟩ := rd_M2 hSh
  refine aw_istI hx hb hK hP hD hS 69 0 he15 rfl (k := j) (by omega) (by decide) d_Mo_key_38 (wr_M2 hSh 2 (by omega) f16 hc17) (fun H locs L hP hD hSh hS => ?_)
  refine lv_aload_n hx hb d_Mo_key_39 rfl (lv_at hl 0 rfl) ?_
  obtain ⟨x19, o20, hw21, he18⟩ := rd_M0 hSh
  refine va_get (C := R_Mo) (T := T_Mo) (N := 19) (v := .ref (aw_m ad 4)) hx hb hG in_Mo hown hK hP 67 he18 rfl 4 (by decide) (hG _ gw_9_29) (fun _ h => h) rfl d_Mo_key_40 ?_
  refine lv_iload_n hx hb d_Mo_key_43 rfl (lv_at hl 1 rfl) ?_
  refine lv_lload_n hx hb d_Mo_key_44 rfl (lv_at hl 2 rfl) ?_
  obtain ⟨f23, he22⟩ := rd_M4 hSh
  refine aw_lstI hx hb hK hP hD hS 71 1 he22 rfl (k := j) (by omega) (by decide) d_Mo_key_45 (wr_M4 hSh _) (fun H locs L hP hD hSh hS => ?_)
  refine lv_aload_n hx hb d_Mo_key_46 rfl (lv_at hl 0 rfl) ?_
  obtain ⟨x25, o26, hw27, he24⟩ := rd_M0 hSh
  refine va_get (C := R_Mo) (T := T_Mo) (N := 19) (v := .ref (aw_m ad 5)) hx hb hG in_Mo hown hK hP 67 he24 rfl 5 (by decide) (hG _ gw_9_30) (fun _ h => h) rfl d_Mo_key_47 ?_
  refine lv_iload_n hx hb d_Mo_key_50 rfl (lv_at hl 1 rfl) ?_
  refine lv_lload hx hb d_Mo_key_51 (lv_at hl 3 rfl) ?_
  obtain ⟨f29, he28⟩ := rd_M5 hSh
  refine aw_lstI hx hb hK hP hD hS 72 1 he28 rfl (k := j) (by omega) (by decide) d_Mo_key_53 (wr_M5 hSh _) (fun H locs L hP hD hSh hS => ?_)
  exact W.vret hx hb hr (fun t ht hW => ⟨⟨(), rfl, trivial, aw_Hr ht hP hD hSh⟩, hS.F ht⟩) hS.2.2 d_Mo_key_54
abbrev ws_Mo_keyXc : List Cond := Cond.code y_Mo_key b_Mo_key 6 none :: aw_G
abbrev rm_Mo_keyXc : Room := { frames := 1, cells := 0, slots := 0, locals := 21 }
set_option maxHeartbeats 4000000 in
set_option maxRecDepth 100000 in
theorem k_Mo_keyXc (l : Launch) (D : va_G) (g : Nat → ClassId) (ad : Nat → Nat) (G M : Nat → Nat × Nat) (F : Int32) (N0 : Nat) (c0 : Int32) (a : Int64) (b : Int64) (hc : c0 < 0 ∨ (¬ c0 < 0 ∧ ¬ c0 < nI 4)) : Met l y_Mo_key ws_Mo_keyXc rm_Mo_keyXc (va_Pc ([.ref (aw_m ad 0), .int c0, .long a, .long b] : List Value) (aw_B D g ad G M F N0)) (va_Qv (fun (_ : Unit) => True) (fun (_ : Unit) t => aw_H D g ad G M (nI 1) N0 t.heap) (aw_Z N0)) 0 0 (aw_Z N0) := by
  refine Met.ofW (cc := b_Mo_key) (maxL := 6) (ret := none) (by decide) rfl ?_
  intro p e s m args below meth c s₁ B hml hv
  obtain ⟨rfl, ⟨L, hP, hD, hSh⟩, hU⟩ := hv
  have hx := B.exec
  have hb := B.bytes
  have hr := B.returns
  have hG : ∀ w ∈ aw_G, w.before _ s = true := fun w h => atoms_spec (ws := ws_Mo_keyXc) B.pre w (List.mem_cons_of_mem _ h)
  have hown : s.vm.findClass "RuleCiphersModel" = some m.cls := findClass_of_methodNamed B.named
  have hlocks := B.notSynchronized
  have hE := hU.1
  have hK := hE.1
  have hN := hE.2.1
  have hS : va_S (aw_Z N0) s.heap s.heap [] := va_S.rf
  have hl := lv_entry ([.ref (aw_m ad 0), .int c0, .long a, .long b] : List Value) (n := 6) (Nat.le_of_ble_eq_true rfl)
  rw [lg_entry_eq]
  generalize (lg_sl ([.ref (aw_m ad 0), .int c0, .long a, .long b] : List Value) ++ List.replicate (6 - (lg_sl ([.ref (aw_m ad 0), .int c0, .long a, .long b] : List Value)).length) Slot.unset).toArray = ls at hl ⊢
  have hl : lv_has ls 6 [(0, .ref (aw_m ad 0)), (1, .int c0), (2, .long a), (4, .long b)] := hl
  refine lv_aload_n hx hb d_Mo_key_0 rfl (lv_at hl 0 rfl) ?_
  refine lv_iload_n hx hb d_Mo_key_1 rfl (lv_at hl 1 rfl) ?_
  refine aw_ci ((va_runS (As := [.int c0]) (rest := [.ref (aw_m ad 0)]) ⟨hx, hb, hml, hown, hG⟩ (k_Mo_isContext0 l c0 hc) (aw_wS 1 hG gw_10_34 gw_10_32 gw_0_10 gw_10_33 rfl rfl hd_Mo_isContext ⟨Nat.le_of_ble_eq_true rfl, Nat.le_of_ble_eq_true rfl⟩) aw_p0 rfl rfl hl.1 rfl (lv_room (Nat.le_of_ble_eq_true rfl)) d_Mo_key_2 ⟨Nat.le_of_ble_eq_true rfl, Nat.le_of_ble_eq_true rfl⟩).run) (fun x1 hx1 => ?_)
  subst hx1
  refine lv_if_ne (tgt := 12) hx hb d_Mo_key_5 (by decide) (fun h => absurd (by decide +kernel) h) (fun _ => ?_)
  refine lv_iconst (v := nI 1) hx hb d_Mo_key_8 (by decide +kernel) ?_
  refine lv_goto (tgt := 26) hx hb d_Mo_key_9 (by decide) ?_
  obtain ⟨_, _, _, he2⟩ := rd_M0 hSh
  refine va_calli (va_runV (As := [.int (nI 1)]) (rest := []) ⟨hx, hb, hml, hown, hG⟩ (k_Mo_refused1 l D g ad G M F N0 1 (by omega)) (aw_wV 1 hG gw_10_37 gw_10_35 gw_0_10 gw_10_36 gw_p_9 rfl rfl hd_Mo_refused ⟨Nat.le_of_ble_eq_true rfl, Nat.le_of_ble_eq_true rfl⟩) (aw_qV (va_recv hK hP rfl he2) hP hD hSh hU hS) rfl rfl hl.1 rfl (lv_room (Nat.le_of_ble_eq_true rfl)) d_Mo_key_26 ⟨Nat.le_of_ble_eq_true rfl, Nat.le_of_ble_eq_true rfl⟩) hS (fun _ _ h => h) (fun _ h => h) (fun x3 u8 t8 H locs ht _ hpx3 hB _ _ hS => ?_)
  obtain ⟨L, hP, hD, hSh⟩ := hB
  rw [ht] at hP
  clear ht
  subst hpx3
  refine lv_if_ne (tgt := 54) hx hb d_Mo_key_29 (by decide) (fun _ => ?_) (fun h => absurd h (by decide +kernel))
  exact W.vret hx hb hr (fun t ht hW => ⟨⟨(), rfl, trivial, aw_Hr ht hP hD hSh⟩, hS.F ht⟩) hS.2.2 d_Mo_key_54
abbrev ws_Mo_keyXs : List Cond := Cond.code y_Mo_key b_Mo_key 6 none :: aw_G
abbrev rm_Mo_keyXs : Room := { frames := 1, cells := 0, slots := 0, locals := 21 }
set_option maxHeartbeats 4000000 in
set_option maxRecDepth 100000 in
theorem k_Mo_keyXs (l : Launch) (D : va_G) (g : Nat → ClassId) (ad : Nat → Nat) (G M : Nat → Nat × Nat) (F : Int32) (N0 : Nat) (j : Nat) (a : Int64) (b : Int64) (hj : j < 4) (hs : (M j).1 = 0) : Met l y_Mo_key ws_Mo_keyXs rm_Mo_keyXs (va_Pc ([.ref (aw_m ad 0), .int (nI j), .long a, .long b] : List Value) (aw_B D g ad G M F N0)) (va_Qv (fun (_ : Unit) => True) (fun (_ : Unit) t => aw_H D g ad G M (nI 2) N0 t.heap) (aw_Z N0)) 0 0 (aw_Z N0) := by
  refine Met.ofW (cc := b_Mo_key) (maxL := 6) (ret := none) (by decide) rfl ?_
  intro p e s m args below meth c s₁ B hml hv
  obtain ⟨rfl, ⟨L, hP, hD, hSh⟩, hU⟩ := hv
  have hx := B.exec
  have hb := B.bytes
  have hr := B.returns
  have hG : ∀ w ∈ aw_G, w.before _ s = true := fun w h => atoms_spec (ws := ws_Mo_keyXs) B.pre w (List.mem_cons_of_mem _ h)
  have hown : s.vm.findClass "RuleCiphersModel" = some m.cls := findClass_of_methodNamed B.named
  have hlocks := B.notSynchronized
  have hE := hU.1
  have hK := hE.1
  have hN := hE.2.1
  have hS : va_S (aw_Z N0) s.heap s.heap [] := va_S.rf
  have hl := lv_entry ([.ref (aw_m ad 0), .int (nI j), .long a, .long b] : List Value) (n := 6) (Nat.le_of_ble_eq_true rfl)
  rw [lg_entry_eq]
  generalize (lg_sl ([.ref (aw_m ad 0), .int (nI j), .long a, .long b] : List Value) ++ List.replicate (6 - (lg_sl ([.ref (aw_m ad 0), .int (nI j), .long a, .long b] : List Value)).length) Slot.unset).toArray = ls at hl ⊢
  have hl : lv_has ls 6 [(0, .ref (aw_m ad 0)), (1, .int (nI j)), (2, .long a), (4, .long b)] := hl
  refine lv_aload_n hx hb d_Mo_key_0 rfl (lv_at hl 0 rfl) ?_
  refine lv_iload_n hx hb d_Mo_key_1 rfl (lv_at hl 1 rfl) ?_
  refine aw_ci ((va_runS (As := [.int (nI j)]) (rest := [.ref (aw_m ad 0)]) ⟨hx, hb, hml, hown, hG⟩ (k_Mo_isContext1 l j hj) (aw_wS 1 hG gw_10_34 gw_10_32 gw_0_10 gw_10_33 rfl rfl hd_Mo_isContext ⟨Nat.le_of_ble_eq_true rfl, Nat.le_of_ble_eq_true rfl⟩) aw_p0 rfl rfl hl.1 rfl (lv_room (Nat.le_of_ble_eq_true rfl)) d_Mo_key_2 ⟨Nat.le_of_ble_eq_true rfl, Nat.le_of_ble_eq_true rfl⟩).run) (fun x1 hx1 => ?_)
  subst hx1
  refine lv_if_ne (tgt := 12) hx hb d_Mo_key_5 (by decide) (fun _ => ?_) (fun h => absurd h (by decide +kernel))
  refine lv_aload_n hx hb d_Mo_key_12 rfl (lv_at hl 0 rfl) ?_
  obtain ⟨x3, o4, hw5, he2⟩ := rd_M0 hSh
  refine va_get (C := R_Mo) (T := T_Mo) (N := 19) (v := .ref (aw_m ad 2)) hx hb hG in_Mo hown hK hP 67 he2 rfl 2 (by decide) (hG _ gw_9_27) (fun _ h => h) rfl d_Mo_key_13 ?_
  refine lv_iload_n hx hb d_Mo_key_16 rfl (lv_at hl 1 rfl) ?_
  obtain ⟨f7, hc8, he6⟩ := rd_M2 hSh
  refine aw_ild hx hb hK hP 69 0 he6 rfl (k := j) (by omega) (by decide) d_Mo_key_17 ?_
  refine aw_ti (y := nI (M j).1) (hc8 _ (by omega)) ?_
  have hm := hSh.2.2.2.2.2 j (by omega)
  refine lv_if_ne (tgt := 25) hx hb d_Mo_key_18 (by decide) (fun h => absurd (show nI ((M j).1) = nI 0 from (nI_eq (by omega) (by omega)).mpr (by omega)) h) (fun _ => ?_)
  refine lv_iconst (v := nI 2) hx hb d_Mo_key_21 (by decide +kernel) ?_
  refine lv_goto (tgt := 26) hx hb d_Mo_key_22 (by decide) ?_
  obtain ⟨_, _, _, he9⟩ := rd_M0 hSh
  refine va_calli (va_runV (As := [.int (nI 2)]) (rest := []) ⟨hx, hb, hml, hown, hG⟩ (k_Mo_refused1 l D g ad G M F N0 2 (by omega)) (aw_wV 1 hG gw_10_37 gw_10_35 gw_0_10 gw_10_36 gw_p_9 rfl rfl hd_Mo_refused ⟨Nat.le_of_ble_eq_true rfl, Nat.le_of_ble_eq_true rfl⟩) (aw_qV (va_recv hK hP rfl he9) hP hD hSh hU hS) rfl rfl hl.1 rfl (lv_room (Nat.le_of_ble_eq_true rfl)) d_Mo_key_26 ⟨Nat.le_of_ble_eq_true rfl, Nat.le_of_ble_eq_true rfl⟩) hS (fun _ _ h => h) (fun _ h => h) (fun x10 u8 t8 H locs ht _ hpx10 hB _ _ hS => ?_)
  obtain ⟨L, hP, hD, hSh⟩ := hB
  rw [ht] at hP
  clear ht
  subst hpx10
  refine lv_if_ne (tgt := 54) hx hb d_Mo_key_29 (by decide) (fun _ => ?_) (fun h => absurd h (by decide +kernel))
  exact W.vret hx hb hr (fun t ht hW => ⟨⟨(), rfl, trivial, aw_Hr ht hP hD hSh⟩, hS.F ht⟩) hS.2.2 d_Mo_key_54
abbrev ws_Mo_mode1 : List Cond := Cond.code y_Mo_mode b_Mo_mode 5 none :: aw_G
abbrev rm_Mo_mode1 : Room := { frames := 1, cells := 0, slots := 0, locals := 21 }
set_option maxHeartbeats 4000000 in
set_option maxRecDepth 100000 in
theorem k_Mo_mode1 (l : Launch) (D : va_G) (g : Nat → ClassId) (ad : Nat → Nat) (G M : Nat → Nat × Nat) (F : Int32) (N0 : Nat) (j : Nat) (k : Nat) (b : Int64) (hj : j < 4) (hk : k ≤ 5) (hs : 2 ≤ (M j).1) : Met l y_Mo_mode ws_Mo_mode1 rm_Mo_mode1 (va_Pc ([.ref (aw_m ad 0), .int (nI j), .int (nI k), .long b] : List Value) (aw_B D g ad G M F N0)) (va_Qv (fun (_ : Unit) => True) (fun (_ : Unit) t => aw_H D g ad G (aw_g2 (aw_g1 M j 3) j k) (nI 0) N0 t.heap) (aw_Z N0)) 0 0 (aw_Z N0) := by
  refine Met.ofW (cc := b_Mo_mode) (maxL := 5) (ret := none) (by decide) rfl ?_
  intro p e s m args below meth c s₁ B hml hv
  obtain ⟨rfl, ⟨L, hP, hD, hSh⟩, hU⟩ := hv
  have hx := B.exec
  have hb := B.bytes
  have hr := B.returns
  have hG : ∀ w ∈ aw_G, w.before _ s = true := fun w h => atoms_spec (ws := ws_Mo_mode1) B.pre w (List.mem_cons_of_mem _ h)
  have hown : s.vm.findClass "RuleCiphersModel" = some m.cls := findClass_of_methodNamed B.named
  have hlocks := B.notSynchronized
  have hE := hU.1
  have hK := hE.1
  have hN := hE.2.1
  have hS : va_S (aw_Z N0) s.heap s.heap [] := va_S.rf
  have hl := lv_entry ([.ref (aw_m ad 0), .int (nI j), .int (nI k), .long b] : List Value) (n := 5) (Nat.le_of_ble_eq_true rfl)
  rw [lg_entry_eq]
  generalize (lg_sl ([.ref (aw_m ad 0), .int (nI j), .int (nI k), .long b] : List Value) ++ List.replicate (5 - (lg_sl ([.ref (aw_m ad 0), .int (nI j), .int (nI k), .long b] : List Value)).length) Slot.unset).toArray = ls at hl ⊢
  have hl : lv_has ls 5 [(0, .ref (aw_m ad 0)), (1, .int (nI j)), (2, .int (nI k)), (3, .long b)] := hl
  refine lv_aload_n hx hb d_Mo_mode_0 rfl (lv_at hl 0 rfl) ?_
  refine lv_iload_n hx hb d_Mo_mode_1 rfl (lv_at hl 1 rfl) ?_
  refine aw_ci ((va_runS (As := [.int (nI j)]) (rest := [.ref (aw_m ad 0)]) ⟨hx, hb, hml, hown, hG⟩ (k_Mo_isContext1 l j hj) (aw_wS 1 hG gw_10_34 gw_10_32 gw_0_10 gw_10_33 rfl rfl hd_Mo_isContext ⟨Nat.le_of_ble_eq_true rfl, Nat.le_of_ble_eq_true rfl⟩) aw_p0 rfl rfl hl.1 rfl (lv_room (Nat.le_of_ble_eq_true rfl)) d_Mo_mode_2 ⟨Nat.le_of_ble_eq_true rfl, Nat.le_of_ble_eq_true rfl⟩).run) (fun x1 hx1 => ?_)
  subst hx1
  refine lv_if_ne (tgt := 12) hx hb d_Mo_mode_5 (by decide) (fun _ => ?_) (fun h => absurd h (by decide +kernel))
  refine lv_iload_n hx hb d_Mo_mode_12 rfl (lv_at hl 2 rfl) ?_
  refine lv_if_lt (tgt := 21) hx hb d_Mo_mode_13 (by decide) (fun h => absurd h (show ¬ nI k < nI 0 from fun h9 => absurd ((nI_ltI (by omega) (by omega)).mp h9) (by omega))) (fun _ => ?_)
  refine lv_iload_n hx hb d_Mo_mode_16 rfl (lv_at hl 2 rfl) ?_
  refine lv_iconst (v := nI 5) hx hb d_Mo_mode_17 (by decide +kernel) ?_
  refine lv_icmp_le (tgt := 25) hx hb d_Mo_mode_18 (by decide) (fun _ => ?_) (fun h => absurd (show nI k ≤ nI 5 from (nI_leI (by omega) (by omega)).mpr (by omega)) h)
  refine lv_aload_n hx hb d_Mo_mode_25 rfl (lv_at hl 0 rfl) ?_
  refine lv_iload_n hx hb d_Mo_mode_26 rfl (lv_at hl 1 rfl) ?_
  obtain ⟨_, _, _, he2⟩ := rd_M0 hSh
  refine va_calli (va_runV (As := [.int (nI j)]) (rest := [.ref (aw_m ad 0)]) ⟨hx, hb, hml, hown, hG⟩ (k_Mo_isKeyed1 l D g ad G M F N0 j hj hs) (aw_wV 1 hG gw_10_48 gw_10_46 gw_0_10 gw_10_47 gw_p_10 rfl rfl hd_Mo_isKeyed ⟨Nat.le_of_ble_eq_true rfl, Nat.le_of_ble_eq_true rfl⟩) (aw_qV (va_recv hK hP rfl he2) hP hD hSh hU hS) rfl rfl hl.1 rfl (lv_room (Nat.le_of_ble_eq_true rfl)) d_Mo_mode_27 ⟨Nat.le_of_ble_eq_true rfl, Nat.le_of_ble_eq_true rfl⟩) hS (fun _ _ h => h) (fun _ h => h) (fun x3 u8 t8 H locs ht _ hpx3 hB _ _ hS => ?_)
  obtain ⟨L, hP, hD, hSh⟩ := hB
  rw [ht] at hP
  clear ht
  subst hpx3
  refine lv_if_ne (tgt := 37) hx hb d_Mo_mode_30 (by decide) (fun _ => ?_) (fun h => absurd h (by decide +kernel))
  refine lv_iconst (v := nI 0) hx hb d_Mo_mode_37 (by decide +kernel) ?_
  obtain ⟨_, _, _, he4⟩ := rd_M0 hSh
  refine va_calli (va_runV (As := [.int (nI 0)]) (rest := []) ⟨hx, hb, hml, hown, hG⟩ (k_Mo_refused0 l D g ad G M F N0) (aw_wV 1 hG gw_10_37 gw_10_35 gw_0_10 gw_10_36 gw_p_9 rfl rfl hd_Mo_refused ⟨Nat.le_of_ble_eq_true rfl, Nat.le_of_ble_eq_true rfl⟩) (aw_qV (va_recv hK hP rfl he4) hP hD hSh hU hS) rfl rfl hl.1 rfl (lv_room (Nat.le_of_ble_eq_true rfl)) d_Mo_mode_38 ⟨Nat.le_of_ble_eq_true rfl, Nat.le_of_ble_eq_true rfl⟩) hS (fun _ _ h => h) (fun _ h => h) (fun x5 u8 t8 H locs ht _ hpx5 hB _ _ hS => ?_)
  obtain ⟨L, hP, hD, hSh⟩ := hB
  rw [ht] at hP
  clear ht
  subst hpx5
  refine lv_if_ne (tgt := 91) hx hb d_Mo_mode_41 (by decide) (fun h => absurd (by decide +kernel) h) (fun _ => ?_)
  refine lv_aload_n hx hb d_Mo_mode_44 rfl (lv_at hl 0 rfl) ?_
  obtain ⟨x7, o8, hw9, he6⟩ := rd_M0 hSh
  refine va_get (C := R_Mo) (T := T_Mo) (N := 19) (v := .ref (aw_m ad 2)) hx hb hG in_Mo hown hK hP 67 he6 rfl 2 (by decide) (hG _ gw_9_27) (fun _ h => h) rfl d_Mo_mode_45 ?_
  refine lv_iload_n hx hb d_Mo_mode_48 rfl (lv_at hl 1 rfl) ?_
  refine lv_iconst (v := nI 3) hx hb d_Mo_mode_49 (by decide +kernel) ?_
  obtain ⟨f11, hc12, he10⟩ := rd_M2 hSh
  refine aw_istI hx hb hK hP hD hS 69 0 he10 rfl (k := j) (by omega) (by decide) d_Mo_mode_50 (wr_M2 hSh 3 (by omega) f11 hc12) (fun H locs L hP hD hSh hS => ?_)
  refine lv_aload_n hx hb d_Mo_mode_51 rfl (lv_at hl 0 rfl) ?_
  obtain ⟨x14, o15, hw16, he13⟩ := rd_M0 hSh
  refine va_get (C := R_Mo) (T := T_Mo) (N := 19) (v := .ref (aw_m ad 6)) hx hb hG in_Mo hown hK hP 67 he13 rfl 6 (by decide) (hG _ gw_9_31) (fun _ h => h) rfl d_Mo_mode_52 ?_
  refine lv_iload_n hx hb d_Mo_mode_55 rfl (lv_at hl 1 rfl) ?_
  refine lv_iload_n hx hb d_Mo_mode_56 rfl (lv_at hl 2 rfl) ?_
  obtain ⟨f18, hc19, he17⟩ := rd_M6 hSh
  refine aw_istI hx hb hK hP hD hS 73 0 he17 rfl (k := j) (by omega) (by decide) d_Mo_mode_57 (wr_M6 hSh k (by omega) f18 hc19) (fun H locs L hP hD hSh hS => ?_)
  refine lv_aload_n hx hb d_Mo_mode_58 rfl (lv_at hl 0 rfl) ?_
  obtain ⟨x21, o22, hw23, he20⟩ := rd_M0 hSh
  refine va_get (C := R_Mo) (T := T_Mo) (N := 19) (v := .ref (aw_m ad 7)) hx hb hG in_Mo hown hK hP 67 he20 rfl 7 (by decide) (hG _ gw_9_32) (fun _ h => h) rfl d_Mo_mode_59 ?_
  refine lv_iload_n hx hb d_Mo_mode_62 rfl (lv_at hl 1 rfl) ?_
  refine lv_lload_n hx hb d_Mo_mode_63 rfl (lv_at hl 3 rfl) ?_
  obtain ⟨f25, he24⟩ := rd_M7 hSh
  refine aw_lstI hx hb hK hP hD hS 74 1 he24 rfl (k := j) (by omega) (by decide) d_Mo_mode_64 (wr_M7 hSh _) (fun H locs L hP hD hSh hS => ?_)
  refine lv_aload_n hx hb d_Mo_mode_65 rfl (lv_at hl 0 rfl) ?_
  obtain ⟨x27, o28, hw29, he26⟩ := rd_M0 hSh
  refine va_get (C := R_Mo) (T := T_Mo) (N := 19) (v := .ref (aw_m ad 8)) hx hb hG in_Mo hown hK hP 67 he26 rfl 8 (by decide) (hG _ gw_9_33) (fun _ h => h) rfl d_Mo_mode_66 ?_
  refine lv_iload_n hx hb d_Mo_mode_69 rfl (lv_at hl 1 rfl) ?_
  refine lv_lload_n hx hb d_Mo_mode_70 rfl (lv_at hl 3 rfl) ?_
  obtain ⟨f31, he30⟩ := rd_M8 hSh
  refine aw_lstI hx hb hK hP hD hS 75 1 he30 rfl (k := j) (by omega) (by decide) d_Mo_mode_71 (wr_M8 hSh _) (fun H locs L hP hD hSh hS => ?_)
  refine lv_aload_n hx hb d_Mo_mode_72 rfl (lv_at hl 0 rfl) ?_
  obtain ⟨x33, o34, hw35, he32⟩ := rd_M0 hSh
  refine va_get (C := R_Mo) (T := T_Mo) (N := 19) (v := .ref (aw_m ad 9)) hx hb hG in_Mo hown hK hP 67 he32 rfl 9 (by decide) (hG _ gw_9_34) (fun _ h => h) rfl d_Mo_mode_73 ?_
  refine lv_iload_n hx hb d_Mo_mode_76 rfl (lv_at hl 1 rfl) ?_
  refine lv_iconst (v := nI 0) hx hb d_Mo_mode_77 (by decide +kernel) ?_
  obtain ⟨f37, he36⟩ := rd_M9 hSh
  refine aw_istI hx hb hK hP hD hS 76 0 he36 rfl (k := j) (by omega) (by decide) d_Mo_mode_78 (wr_M9 hSh _) (fun H locs L hP hD hSh hS => ?_)
  refine lv_aload_n hx hb d_Mo_mode_79 rfl (lv_at hl 0 rfl) ?_
  obtain ⟨x39, o40, hw41, he38⟩ := rd_M0 hSh
  refine va_get (C := R_Mo) (T := T_Mo) (N := 19) (v := .ref (aw_m ad 10)) hx hb hG in_Mo hown hK hP 67 he38 rfl 10 (by decide) (hG _ gw_9_35) (fun _ h => h) rfl d_Mo_mode_80 ?_
  refine lv_iload_n hx hb d_Mo_mode_83 rfl (lv_at hl 1 rfl) ?_
  refine lv_iconst (v := nI 0) hx hb d_Mo_mode_84 (by decide +kernel) ?_
  obtain ⟨f43, he42⟩ := rd_M10 hSh
  refine aw_istI hx hb hK hP hD hS 77 0 he42 rfl (k := j) (by omega) (by decide) d_Mo_mode_85 (wr_M10 hSh _) (fun H locs L hP hD hSh hS => ?_)
  refine lv_aload_n hx hb d_Mo_mode_86 rfl (lv_at hl 0 rfl) ?_
  refine lv_iload_n hx hb d_Mo_mode_87 rfl (lv_at hl 1 rfl) ?_
  obtain ⟨_, _, _, he44⟩ := rd_M0 hSh
  refine va_callv (va_runV (As := [.int (nI j)]) (rest := []) ⟨hx, hb, hml, hown, hG⟩ (k_Mo_empty l D g ad G (aw_g2 (aw_g1 M j 3) j k) (nI 0) N0 j hj) (aw_wV 1 hG gw_10_51 gw_10_49 gw_0_10 gw_10_50 gw_p_11 rfl rfl hd_Mo_empty ⟨Nat.le_of_ble_eq_true rfl, Nat.le_of_ble_eq_true rfl⟩) (aw_qV (va_recv hK hP rfl he44) hP hD hSh hU hS) rfl rfl hl.1 rfl (lv_room (Nat.le_of_ble_eq_true rfl)) d_Mo_mode_88 ⟨Nat.le_of_ble_eq_true rfl, Nat.le_of_ble_eq_true rfl⟩) hS (fun _ _ h => h) (fun _ h => h) (fun u8 t8 H locs ht _ _ hB _ _ hS => ?_)
  obtain ⟨L, hP, hD, hSh⟩ := hB
  rw [ht] at hP
  clear ht
  exact W.vret hx hb hr (fun t ht hW => ⟨⟨(), rfl, trivial, aw_Hr ht hP hD hSh⟩, hS.F ht⟩) hS.2.2 d_Mo_mode_91
abbrev ws_Mo_modeXc : List Cond := Cond.code y_Mo_mode b_Mo_mode 5 none :: aw_G
abbrev rm_Mo_modeXc : Room := { frames := 1, cells := 0, slots := 0, locals := 21 }
set_option maxHeartbeats 4000000 in
set_option maxRecDepth 100000 in
theorem k_Mo_modeXc (l : Launch) (D : va_G) (g : Nat → ClassId) (ad : Nat → Nat) (G M : Nat → Nat × Nat) (F : Int32) (N0 : Nat) (c0 : Int32) (k0 : Int32) (b : Int64) (hc : c0 < 0 ∨ (¬ c0 < 0 ∧ ¬ c0 < nI 4)) : Met l y_Mo_mode ws_Mo_modeXc rm_Mo_modeXc (va_Pc ([.ref (aw_m ad 0), .int c0, .int k0, .long b] : List Value) (aw_B D g ad G M F N0)) (va_Qv (fun (_ : Unit) => True) (fun (_ : Unit) t => aw_H D g ad G M (nI 1) N0 t.heap) (aw_Z N0)) 0 0 (aw_Z N0) := by
  refine Met.ofW (cc := b_Mo_mode) (maxL := 5) (ret := none) (by decide) rfl ?_
  intro p e s m args below meth c s₁ B hml hv
  obtain ⟨rfl, ⟨L, hP, hD, hSh⟩, hU⟩ := hv
  have hx := B.exec
  have hb := B.bytes
  have hr := B.returns
  have hG : ∀ w ∈ aw_G, w.before _ s = true := fun w h => atoms_spec (ws := ws_Mo_modeXc) B.pre w (List.mem_cons_of_mem _ h)
  have hown : s.vm.findClass "RuleCiphersModel" = some m.cls := findClass_of_methodNamed B.named
  have hlocks := B.notSynchronized
  have hE := hU.1
  have hK := hE.1
  have hN := hE.2.1
  have hS : va_S (aw_Z N0) s.heap s.heap [] := va_S.rf
  have hl := lv_entry ([.ref (aw_m ad 0), .int c0, .int k0, .long b] : List Value) (n := 5) (Nat.le_of_ble_eq_true rfl)
  rw [lg_entry_eq]
  generalize (lg_sl ([.ref (aw_m ad 0), .int c0, .int k0, .long b] : List Value) ++ List.replicate (5 - (lg_sl ([.ref (aw_m ad 0), .int c0, .int k0, .long b] : List Value)).length) Slot.unset).toArray = ls at hl ⊢
  have hl : lv_has ls 5 [(0, .ref (aw_m ad 0)), (1, .int c0), (2, .int k0), (3, .long b)] := hl
  refine lv_aload_n hx hb d_Mo_mode_0 rfl (lv_at hl 0 rfl) ?_
  refine lv_iload_n hx hb d_Mo_mode_1 rfl (lv_at hl 1 rfl) ?_
  refine aw_ci ((va_runS (As := [.int c0]) (rest := [.ref (aw_m ad 0)]) ⟨hx, hb, hml, hown, hG⟩ (k_Mo_isContext0 l c0 hc) (aw_wS 1 hG gw_10_34 gw_10_32 gw_0_10 gw_10_33 rfl rfl hd_Mo_isContext ⟨Nat.le_of_ble_eq_true rfl, Nat.le_of_ble_eq_true rfl⟩) aw_p0 rfl rfl hl.1 rfl (lv_room (Nat.le_of_ble_eq_true rfl)) d_Mo_mode_2 ⟨Nat.le_of_ble_eq_true rfl, Nat.le_of_ble_eq_true rfl⟩).run) (fun x1 hx1 => ?_)
  subst hx1
  refine lv_if_ne (tgt := 12) hx hb d_Mo_mode_5 (by decide) (fun h => absurd (by decide +kernel) h) (fun _ => ?_)
  refine lv_iconst (v := nI 1) hx hb d_Mo_mode_8 (by decide +kernel) ?_
  refine lv_goto (tgt := 38) hx hb d_Mo_mode_9 (by decide) ?_
  obtain ⟨_, _, _, he2⟩ := rd_M0 hSh
  refine va_calli (va_runV (As := [.int (nI 1)]) (rest := []) ⟨hx, hb, hml, hown, hG⟩ (k_Mo_refused1 l D g ad G M F N0 1 (by omega)) (aw_wV 1 hG gw_10_37 gw_10_35 gw_0_10 gw_10_36 gw_p_9 rfl rfl hd_Mo_refused ⟨Nat.le_of_ble_eq_true rfl, Nat.le_of_ble_eq_true rfl⟩) (aw_qV (va_recv hK hP rfl he2) hP hD hSh hU hS) rfl rfl hl.1 rfl (lv_room (Nat.le_of_ble_eq_true rfl)) d_Mo_mode_38 ⟨Nat.le_of_ble_eq_true rfl, Nat.le_of_ble_eq_true rfl⟩) hS (fun _ _ h => h) (fun _ h => h) (fun x3 u8 t8 H locs ht _ hpx3 hB _ _ hS => ?_)
  obtain ⟨L, hP, hD, hSh⟩ := hB
  rw [ht] at hP
  clear ht
  subst hpx3
  refine lv_if_ne (tgt := 91) hx hb d_Mo_mode_41 (by decide) (fun _ => ?_) (fun h => absurd h (by decide +kernel))
  exact W.vret hx hb hr (fun t ht hW => ⟨⟨(), rfl, trivial, aw_Hr ht hP hD hSh⟩, hS.F ht⟩) hS.2.2 d_Mo_mode_91
abbrev ws_Mo_modeXa : List Cond := Cond.code y_Mo_mode b_Mo_mode 5 none :: aw_G
abbrev rm_Mo_modeXa : Room := { frames := 1, cells := 0, slots := 0, locals := 21 }
set_option maxHeartbeats 4000000 in
set_option maxRecDepth 100000 in
theorem k_Mo_modeXa (l : Launch) (D : va_G) (g : Nat → ClassId) (ad : Nat → Nat) (G M : Nat → Nat × Nat) (F : Int32) (N0 : Nat) (j : Nat) (k0 : Int32) (b : Int64) (hj : j < 4) (hk : k0 < 0 ∨ (¬ k0 < 0 ∧ nI 5 < k0)) : Met l y_Mo_mode ws_Mo_modeXa rm_Mo_modeXa (va_Pc ([.ref (aw_m ad 0), .int (nI j), .int k0, .long b] : List Value) (aw_B D g ad G M F N0)) (va_Qv (fun (_ : Unit) => True) (fun (_ : Unit) t => aw_H D g ad G M (nI 2) N0 t.heap) (aw_Z N0)) 0 0 (aw_Z N0) := by
  refine Met.ofW (cc := b_Mo_mode) (maxL := 5) (ret := none) (by decide) rfl ?_
  intro p e s m args below meth c s₁ B hml hv
  obtain ⟨rfl, ⟨L, hP, hD, hSh⟩, hU⟩ := hv
  have hx := B.exec
  have hb := B.bytes
  have hr := B.returns
  have hG : ∀ w ∈ aw_G, w.before _ s = true := fun w h => atoms_spec (ws := ws_Mo_modeXa) B.pre w (List.mem_cons_of_mem _ h)
  have hown : s.vm.findClass "RuleCiphersModel" = some m.cls := findClass_of_methodNamed B.named
  have hlocks := B.notSynchronized
  have hE := hU.1
  have hK := hE.1
  have hN := hE.2.1
  have hS : va_S (aw_Z N0) s.heap s.heap [] := va_S.rf
  have hl := lv_entry ([.ref (aw_m ad 0), .int (nI j), .int k0, .long b] : List Value) (n := 5) (Nat.le_of_ble_eq_true rfl)
  rw [lg_entry_eq]
  generalize (lg_sl ([.ref (aw_m ad 0), .int (nI j), .int k0, .long b] : List Value) ++ List.replicate (5 - (lg_sl ([.ref (aw_m ad 0), .int (nI j), .int k0, .long b] : List Value)).length) Slot.unset).toArray = ls at hl ⊢
  have hl : lv_has ls 5 [(0, .ref (aw_m ad 0)), (1, .int (nI j)), (2, .int k0), (3, .long b)] := hl
  rcases hk with hk | hk
  · refine lv_aload_n hx hb d_Mo_mode_0 rfl (lv_at hl 0 rfl) ?_
    refine lv_iload_n hx hb d_Mo_mode_1 rfl (lv_at hl 1 rfl) ?_
    refine aw_ci ((va_runS (As := [.int (nI j)]) (rest := [.ref (aw_m ad 0)]) ⟨hx, hb, hml, hown, hG⟩ (k_Mo_isContext1 l j hj) (aw_wS 1 hG gw_10_34 gw_10_32 gw_0_10 gw_10_33 rfl rfl hd_Mo_isContext ⟨Nat.le_of_ble_eq_true rfl, Nat.le_of_ble_eq_true rfl⟩) aw_p0 rfl rfl hl.1 rfl (lv_room (Nat.le_of_ble_eq_true rfl)) d_Mo_mode_2 ⟨Nat.le_of_ble_eq_true rfl, Nat.le_of_ble_eq_true rfl⟩).run) (fun x1 hx1 => ?_)
    subst hx1
    refine lv_if_ne (tgt := 12) hx hb d_Mo_mode_5 (by decide) (fun _ => ?_) (fun h => absurd h (by decide +kernel))
    refine lv_iload_n hx hb d_Mo_mode_12 rfl (lv_at hl 2 rfl) ?_
    refine lv_if_lt (tgt := 21) hx hb d_Mo_mode_13 (by decide) (fun _ => ?_) (fun h => absurd hk h)
    refine lv_iconst (v := nI 2) hx hb d_Mo_mode_21 (by decide +kernel) ?_
    refine lv_goto (tgt := 38) hx hb d_Mo_mode_22 (by decide) ?_
    obtain ⟨_, _, _, he2⟩ := rd_M0 hSh
    refine va_calli (va_runV (As := [.int (nI 2)]) (rest := []) ⟨hx, hb, hml, hown, hG⟩ (k_Mo_refused1 l D g ad G M F N0 2 (by omega)) (aw_wV 1 hG gw_10_37 gw_10_35 gw_0_10 gw_10_36 gw_p_9 rfl rfl hd_Mo_refused ⟨Nat.le_of_ble_eq_true rfl, Nat.le_of_ble_eq_true rfl⟩) (aw_qV (va_recv hK hP rfl he2) hP hD hSh hU hS) rfl rfl hl.1 rfl (lv_room (Nat.le_of_ble_eq_true rfl)) d_Mo_mode_38 ⟨Nat.le_of_ble_eq_true rfl, Nat.le_of_ble_eq_true rfl⟩) hS (fun _ _ h => h) (fun _ h => h) (fun x3 u8 t8 H locs ht _ hpx3 hB _ _ hS => ?_)
    obtain ⟨L, hP, hD, hSh⟩ := hB
    rw [ht] at hP
    clear ht
    subst hpx3
    refine lv_if_ne (tgt := 91) hx hb d_Mo_mode_41 (by decide) (fun _ => ?_) (fun h => absurd h (by decide +kernel))
    exact W.vret hx hb hr (fun t ht hW => ⟨⟨(), rfl, trivial, aw_Hr ht hP hD hSh⟩, hS.F ht⟩) hS.2.2 d_Mo_mode_91
  · refine lv_aload_n hx hb d_Mo_mode_0 rfl (lv_at hl 0 rfl) ?_
    refine lv_iload_n hx hb d_Mo_mode_1 rfl (lv_at hl 1 rfl) ?_
    refine aw_ci ((va_runS (As := [.int (nI j)]) (rest := [.ref (aw_m ad 0)]) ⟨hx, hb, hml, hown, hG⟩ (k_Mo_isContext1 l j hj) (aw_wS 1 hG gw_10_34 gw_10_32 gw_0_10 gw_10_33 rfl rfl hd_Mo_isContext ⟨Nat.le_of_ble_eq_true rfl, Nat.le_of_ble_eq_true rfl⟩) aw_p0 rfl rfl hl.1 rfl (lv_room (Nat.le_of_ble_eq_true rfl)) d_Mo_mode_2 ⟨Nat.le_of_ble_eq_true rfl, Nat.le_of_ble_eq_true rfl⟩).run) (fun x4 hx4 => ?_)
    subst hx4
    refine lv_if_ne (tgt := 12) hx hb d_Mo_mode_5 (by decide) (fun _ => ?_) (fun h => absurd h (by decide +kernel))
    refine lv_iload_n hx hb d_Mo_mode_12 rfl (lv_at hl 2 rfl) ?_
    refine lv_if_lt (tgt := 21) hx hb d_Mo_mode_13 (by decide) (fun h => absurd h hk.1) (fun _ => ?_)
    refine lv_iload_n hx hb d_Mo_mode_16 rfl (lv_at hl 2 rfl) ?_
    refine lv_iconst (v := nI 5) hx hb d_Mo_mode_17 (by decide +kernel) ?_
    refine lv_icmp_le (tgt := 25) hx hb d_Mo_mode_18 (by decide) (fun h => absurd h (fun h9 => absurd hk.2 (Int32.not_lt.mpr h9))) (fun _ => ?_)
    refine lv_iconst (v := nI 2) hx hb d_Mo_mode_21 (by decide +kernel) ?_
    refine lv_goto (tgt := 38) hx hb d_Mo_mode_22 (by decide) ?_
    obtain ⟨_, _, _, he5⟩ := rd_M0 hSh
    refine va_calli (va_runV (As := [.int (nI 2)]) (rest := []) ⟨hx, hb, hml, hown, hG⟩ (k_Mo_refused1 l D g ad G M F N0 2 (by omega)) (aw_wV 1 hG gw_10_37 gw_10_35 gw_0_10 gw_10_36 gw_p_9 rfl rfl hd_Mo_refused ⟨Nat.le_of_ble_eq_true rfl, Nat.le_of_ble_eq_true rfl⟩) (aw_qV (va_recv hK hP rfl he5) hP hD hSh hU hS) rfl rfl hl.1 rfl (lv_room (Nat.le_of_ble_eq_true rfl)) d_Mo_mode_38 ⟨Nat.le_of_ble_eq_true rfl, Nat.le_of_ble_eq_true rfl⟩) hS (fun _ _ h => h) (fun _ h => h) (fun x6 u8 t8 H locs ht _ hpx6 hB _ _ hS => ?_)
    obtain ⟨L, hP, hD, hSh⟩ := hB
    rw [ht] at hP
    clear ht
    subst hpx6
    refine lv_if_ne (tgt := 91) hx hb d_Mo_mode_41 (by decide) (fun _ => ?_) (fun h => absurd h (by decide +kernel))
    exact W.vret hx hb hr (fun t ht hW => ⟨⟨(), rfl, trivial, aw_Hr ht hP hD hSh⟩, hS.F ht⟩) hS.2.2 d_Mo_mode_91
abbrev ws_Mo_modeXs : List Cond := Cond.code y_Mo_mode b_Mo_mode 5 none :: aw_G
abbrev rm_Mo_modeXs : Room := { frames := 1, cells := 0, slots := 0, locals := 21 }
set_option maxHeartbeats 4000000 in
set_option maxRecDepth 100000 in
theorem k_Mo_modeXs (l : Launch) (D : va_G) (g : Nat → ClassId) (ad : Nat → Nat) (G M : Nat → Nat × Nat) (F : Int32) (N0 : Nat) (j : Nat) (k : Nat) (b : Int64) (hj : j < 4) (hk : k ≤ 5) (hs : (M j).1 ≤ 1) : Met l y_Mo_mode ws_Mo_modeXs rm_Mo_modeXs (va_Pc ([.ref (aw_m ad 0), .int (nI j), .int (nI k), .long b] : List Value) (aw_B D g ad G M F N0)) (va_Qv (fun (_ : Unit) => True) (fun (_ : Unit) t => aw_H D g ad G M (nI 3) N0 t.heap) (aw_Z N0)) 0 0 (aw_Z N0) := by
  refine Met.ofW (cc := b_Mo_mode) (maxL := 5) (ret := none) (by decide) rfl ?_
  intro p e s m args below meth c s₁ B hml hv
  obtain ⟨rfl, ⟨L, hP, hD, hSh⟩, hU⟩ := hv
  have hx := B.exec
  have hb := B.bytes
  have hr := B.returns
  have hG : ∀ w ∈ aw_G, w.before _ s = true := fun w h => atoms_spec (ws := ws_Mo_modeXs) B.pre w (List.mem_cons_of_mem _ h)
  have hown : s.vm.findClass "RuleCiphersModel" = some m.cls := findClass_of_methodNamed B.named
  have hlocks := B.notSynchronized
  have hE := hU.1
  have hK := hE.1
  have hN := hE.2.1
  have hS : va_S (aw_Z N0) s.heap s.heap [] := va_S.rf
  have hl := lv_entry ([.ref (aw_m ad 0), .int (nI j), .int (nI k), .long b] : List Value) (n := 5) (Nat.le_of_ble_eq_true rfl)
  rw [lg_entry_eq]
  generalize (lg_sl ([.ref (aw_m ad 0), .int (nI j), .int (nI k), .long b] : List Value) ++ List.replicate (5 - (lg_sl ([.ref (aw_m ad 0), .int (nI j), .int (nI k), .long b] : List Value)).length) Slot.unset).toArray = ls at hl ⊢
  have hl : lv_has ls 5 [(0, .ref (aw_m ad 0)), (1, .int (nI j)), (2, .int (nI k)), (3, .long b)] := hl
  refine lv_aload_n hx hb d_Mo_mode_0 rfl (lv_at hl 0 rfl) ?_
  refine lv_iload_n hx hb d_Mo_mode_1 rfl (lv_at hl 1 rfl) ?_
  refine aw_ci ((va_runS (As := [.int (nI j)]) (rest := [.ref (aw_m ad 0)]) ⟨hx, hb, hml, hown, hG⟩ (k_Mo_isContext1 l j hj) (aw_wS 1 hG gw_10_34 gw_10_32 gw_0_10 gw_10_33 rfl rfl hd_Mo_isContext ⟨Nat.le_of_ble_eq_true rfl, Nat.le_of_ble_eq_true rfl⟩) aw_p0 rfl rfl hl.1 rfl (lv_room (Nat.le_of_ble_eq_true rfl)) d_Mo_mode_2 ⟨Nat.le_of_ble_eq_true rfl, Nat.le_of_ble_eq_true rfl⟩).run) (fun x1 hx1 => ?_)
  subst hx1
  refine lv_if_ne (tgt := 12) hx hb d_Mo_mode_5 (by decide) (fun _ => ?_) (fun h => absurd h (by decide +kernel))
  refine lv_iload_n hx hb d_Mo_mode_12 rfl (lv_at hl 2 rfl) ?_
  refine lv_if_lt (tgt := 21) hx hb d_Mo_mode_13 (by decide) (fun h => absurd h (show ¬ nI k < nI 0 from fun h9 => absurd ((nI_ltI (by omega) (by omega)).mp h9) (by omega))) (fun _ => ?_)
  refine lv_iload_n hx hb d_Mo_mode_16 rfl (lv_at hl 2 rfl) ?_
  refine lv_iconst (v := nI 5) hx hb d_Mo_mode_17 (by decide +kernel) ?_
  refine lv_icmp_le (tgt := 25) hx hb d_Mo_mode_18 (by decide) (fun _ => ?_) (fun h => absurd (show nI k ≤ nI 5 from (nI_leI (by omega) (by omega)).mpr (by omega)) h)
  refine lv_aload_n hx hb d_Mo_mode_25 rfl (lv_at hl 0 rfl) ?_
  refine lv_iload_n hx hb d_Mo_mode_26 rfl (lv_at hl 1 rfl) ?_
  obtain ⟨_, _, _, he2⟩ := rd_M0 hSh
  refine va_calli (va_runV (As := [.int (nI j)]) (rest := [.ref (aw_m ad 0)]) ⟨hx, hb, hml, hown, hG⟩ (k_Mo_isKeyed0 l D g ad G M F N0 j hj hs) (aw_wV 1 hG gw_10_48 gw_10_46 gw_0_10 gw_10_47 gw_p_10 rfl rfl hd_Mo_isKeyed ⟨Nat.le_of_ble_eq_true rfl, Nat.le_of_ble_eq_true rfl⟩) (aw_qV (va_recv hK hP rfl he2) hP hD hSh hU hS) rfl rfl hl.1 rfl (lv_room (Nat.le_of_ble_eq_true rfl)) d_Mo_mode_27 ⟨Nat.le_of_ble_eq_true rfl, Nat.le_of_ble_eq_true rfl⟩) hS (fun _ _ h => h) (fun _ h => h) (fun x3 u8 t8 H locs ht _ hpx3 hB _ _ hS => ?_)
  obtain ⟨L, hP, hD, hSh⟩ := hB
  rw [ht] at hP
  clear ht
  subst hpx3
  refine lv_if_ne (tgt := 37) hx hb d_Mo_mode_30 (by decide) (fun h => absurd (by decide +kernel) h) (fun _ => ?_)
  refine lv_iconst (v := nI 3) hx hb d_Mo_mode_33 (by decide +kernel) ?_
  refine lv_goto (tgt := 38) hx hb d_Mo_mode_34 (by decide) ?_
  obtain ⟨_, _, _, he4⟩ := rd_M0 hSh
  refine va_calli (va_runV (As := [.int (nI 3)]) (rest := []) ⟨hx, hb, hml, hown, hG⟩ (k_Mo_refused1 l D g ad G M F N0 3 (by omega)) (aw_wV 1 hG gw_10_37 gw_10_35 gw_0_10 gw_10_36 gw_p_9 rfl rfl hd_Mo_refused ⟨Nat.le_of_ble_eq_true rfl, Nat.le_of_ble_eq_true rfl⟩) (aw_qV (va_recv hK hP rfl he4) hP hD hSh hU hS) rfl rfl hl.1 rfl (lv_room (Nat.le_of_ble_eq_true rfl)) d_Mo_mode_38 ⟨Nat.le_of_ble_eq_true rfl, Nat.le_of_ble_eq_true rfl⟩) hS (fun _ _ h => h) (fun _ h => h) (fun x5 u8 t8 H locs ht _ hpx5 hB _ _ hS => ?_)
  obtain ⟨L, hP, hD, hSh⟩ := hB
  rw [ht] at hP
  clear ht
  subst hpx5
  refine lv_if_ne (tgt := 91) hx hb d_Mo_mode_41 (by decide) (fun _ => ?_) (fun h => absurd h (by decide +kernel))
  exact W.vret hx hb hr (fun t ht hW => ⟨⟨(), rfl, trivial, aw_Hr ht hP hD hSh⟩, hS.F ht⟩) hS.2.2 d_Mo_mode_91
abbrev ws_Mo_free1 : List Cond := Cond.code y_Mo_free b_Mo_free 2 none :: aw_G
abbrev rm_Mo_free1 : Room := { frames := 1, cells := 0, slots := 0, locals := 21 }
set_option maxHeartbeats 4000000 in
set_option maxRecDepth 100000 in
theorem k_Mo_free1 (l : Launch) (D : va_G) (g : Nat → ClassId) (ad : Nat → Nat) (G M : Nat → Nat × Nat) (F : Int32) (N0 : Nat) (j : Nat) (hj : j < 4) : Met l y_Mo_free ws_Mo_free1 rm_Mo_free1 (va_Pc ([.ref (aw_m ad 0), .int (nI j)] : List Value) (aw_B D g ad G M F N0)) (va_Qv (fun (_ : Unit) => True) (fun (_ : Unit) t => aw_H D g ad G (aw_g1 M j 0) (nI 0) N0 t.heap) (aw_Z N0)) 0 0 (aw_Z N0) := by
  refine Met.ofW (cc := b_Mo_free) (maxL := 2) (ret := none) (by decide) rfl ?_
  intro p e s m args below meth c s₁ B hml hv
  obtain ⟨rfl, ⟨L, hP, hD, hSh⟩, hU⟩ := hv
  have hx := B.exec
  have hb := B.bytes
  have hr := B.returns
  have hG : ∀ w ∈ aw_G, w.before _ s = true := fun w h => atoms_spec (ws := ws_Mo_free1) B.pre w (List.mem_cons_of_mem _ h)
  have hown : s.vm.findClass "RuleCiphersModel" = some m.cls := findClass_of_methodNamed B.named
  have hlocks := B.notSynchronized
  have hE := hU.1
  have hK := hE.1
  have hN := hE.2.1
  have hS : va_S (aw_Z N0) s.heap s.heap [] := va_S.rf
  have hl := lv_entry ([.ref (aw_m ad 0), .int (nI j)] : List Value) (n := 2) (Nat.le_of_ble_eq_true rfl)
  rw [lg_entry_eq]
  generalize (lg_sl ([.ref (aw_m ad 0), .int (nI j)] : List Value) ++ List.replicate (2 - (lg_sl ([.ref (aw_m ad 0), .int (nI j)] : List Value)).length) Slot.unset).toArray = ls at hl ⊢
  have hl : lv_has ls 2 [(0, .ref (aw_m ad 0)), (1, .int (nI j))] := hl
  refine lv_aload_n hx hb d_Mo_free_0 rfl (lv_at hl 0 rfl) ?_
  refine lv_iload_n hx hb d_Mo_free_1 rfl (lv_at hl 1 rfl) ?_
  refine aw_ci ((va_runS (As := [.int (nI j)]) (rest := [.ref (aw_m ad 0)]) ⟨hx, hb, hml, hown, hG⟩ (k_Mo_isContext1 l j hj) (aw_wS 1 hG gw_10_34 gw_10_32 gw_0_10 gw_10_33 rfl rfl hd_Mo_isContext ⟨Nat.le_of_ble_eq_true rfl, Nat.le_of_ble_eq_true rfl⟩) aw_p0 rfl rfl hl.1 rfl (lv_room (Nat.le_of_ble_eq_true rfl)) d_Mo_free_2 ⟨Nat.le_of_ble_eq_true rfl, Nat.le_of_ble_eq_true rfl⟩).run) (fun x1 hx1 => ?_)
  subst hx1
  refine lv_if_eq (tgt := 12) hx hb d_Mo_free_5 (by decide) (fun h => absurd h (by decide +kernel)) (fun _ => ?_)
  refine lv_iconst (v := nI 0) hx hb d_Mo_free_8 (by decide +kernel) ?_
  refine lv_goto (tgt := 13) hx hb d_Mo_free_9 (by decide) ?_
  obtain ⟨_, _, _, he2⟩ := rd_M0 hSh
  refine va_calli (va_runV (As := [.int (nI 0)]) (rest := []) ⟨hx, hb, hml, hown, hG⟩ (k_Mo_refused0 l D g ad G M F N0) (aw_wV 1 hG gw_10_37 gw_10_35 gw_0_10 gw_10_36 gw_p_9 rfl rfl hd_Mo_refused ⟨Nat.le_of_ble_eq_true rfl, Nat.le_of_ble_eq_true rfl⟩) (aw_qV (va_recv hK hP rfl he2) hP hD hSh hU hS) rfl rfl hl.1 rfl (lv_room (Nat.le_of_ble_eq_true rfl)) d_Mo_free_13 ⟨Nat.le_of_ble_eq_true rfl, Nat.le_of_ble_eq_true rfl⟩) hS (fun _ _ h => h) (fun _ h => h) (fun x3 u8 t8 H locs ht _ hpx3 hB _ _ hS => ?_)
  obtain ⟨L, hP, hD, hSh⟩ := hB
  rw [ht] at hP
  clear ht
  subst hpx3
  refine lv_if_ne (tgt := 26) hx hb d_Mo_free_16 (by decide) (fun h => absurd (by decide +kernel) h) (fun _ => ?_)
  refine lv_aload_n hx hb d_Mo_free_19 rfl (lv_at hl 0 rfl) ?_
  obtain ⟨x5, o6, hw7, he4⟩ := rd_M0 hSh
  refine va_get (C := R_Mo) (T := T_Mo) (N := 19) (v := .ref (aw_m ad 2)) hx hb hG in_Mo hown hK hP 67 he4 rfl 2 (by decide) (hG _ gw_9_27) (fun _ h => h) rfl d_Mo_free_20 ?_
  refine lv_iload_n hx hb d_Mo_free_23 rfl (lv_at hl 1 rfl) ?_
  refine lv_iconst (v := nI 0) hx hb d_Mo_free_24 (by decide +kernel) ?_
  obtain ⟨f9, hc10, he8⟩ := rd_M2 hSh
  refine aw_istI hx hb hK hP hD hS 69 0 he8 rfl (k := j) (by omega) (by decide) d_Mo_free_25 (wr_M2 hSh 0 (by omega) f9 hc10) (fun H locs L hP hD hSh hS => ?_)
  exact W.vret hx hb hr (fun t ht hW => ⟨⟨(), rfl, trivial, aw_Hr ht hP hD hSh⟩, hS.F ht⟩) hS.2.2 d_Mo_free_26
abbrev ws_Mo_freeXc : List Cond := Cond.code y_Mo_free b_Mo_free 2 none :: aw_G
abbrev rm_Mo_freeXc : Room := { frames := 1, cells := 0, slots := 0, locals := 21 }
set_option maxHeartbeats 4000000 in
set_option maxRecDepth 100000 in
theorem k_Mo_freeXc (l : Launch) (D : va_G) (g : Nat → ClassId) (ad : Nat → Nat) (G M : Nat → Nat × Nat) (F : Int32) (N0 : Nat) (c0 : Int32) (hc : c0 < 0 ∨ (¬ c0 < 0 ∧ ¬ c0 < nI 4)) : Met l y_Mo_free ws_Mo_freeXc rm_Mo_freeXc (va_Pc ([.ref (aw_m ad 0), .int c0] : List Value) (aw_B D g ad G M F N0)) (va_Qv (fun (_ : Unit) => True) (fun (_ : Unit) t => aw_H D g ad G M (nI 1) N0 t.heap) (aw_Z N0)) 0 0 (aw_Z N0) := by
  refine Met.ofW (cc := b_Mo_free) (maxL := 2) (ret := none) (by decide) rfl ?_
  intro p e s m args below meth c s₁ B hml hv
  obtain ⟨rfl, ⟨L, hP, hD, hSh⟩, hU⟩ := hv
  have hx := B.exec
  have hb := B.bytes
  have hr := B.returns
  have hG : ∀ w ∈ aw_G, w.before _ s = true := fun w h => atoms_spec (ws := ws_Mo_freeXc) B.pre w (List.mem_cons_of_mem _ h)
  have hown : s.vm.findClass "RuleCiphersModel" = some m.cls := findClass_of_methodNamed B.named
  have hlocks := B.notSynchronized
  have hE := hU.1
  have hK := hE.1
  have hN := hE.2.1
  have hS : va_S (aw_Z N0) s.heap s.heap [] := va_S.rf
  have hl := lv_entry ([.ref (aw_m ad 0), .int c0] : List Value) (n := 2) (Nat.le_of_ble_eq_true rfl)
  rw [lg_entry_eq]
  generalize (lg_sl ([.ref (aw_m ad 0), .int c0] : List Value) ++ List.replicate (2 - (lg_sl ([.ref (aw_m ad 0), .int c0] : List Value)).length) Slot.unset).toArray = ls at hl ⊢
  have hl : lv_has ls 2 [(0, .ref (aw_m ad 0)), (1, .int c0)] := hl
  refine lv_aload_n hx hb d_Mo_free_0 rfl (lv_at hl 0 rfl) ?_
  refine lv_iload_n hx hb d_Mo_free_1 rfl (lv_at hl 1 rfl) ?_
  refine aw_ci ((va_runS (As := [.int c0]) (rest := [.ref (aw_m ad 0)]) ⟨hx, hb, hml, hown, hG⟩ (k_Mo_isContext0 l c0 hc) (aw_wS 1 hG gw_10_34 gw_10_32 gw_0_10 gw_10_33 rfl rfl hd_Mo_isContext ⟨Nat.le_of_ble_eq_true rfl, Nat.le_of_ble_eq_true rfl⟩) aw_p0 rfl rfl hl.1 rfl (lv_room (Nat.le_of_ble_eq_true rfl)) d_Mo_free_2 ⟨Nat.le_of_ble_eq_true rfl, Nat.le_of_ble_eq_true rfl⟩).run) (fun x1 hx1 => ?_)
  subst hx1
  refine lv_if_eq (tgt := 12) hx hb d_Mo_free_5 (by decide) (fun _ => ?_) (fun h => absurd (by decide +kernel) h)
  refine lv_iconst (v := nI 1) hx hb d_Mo_free_12 (by decide +kernel) ?_
  obtain ⟨_, _, _, he2⟩ := rd_M0 hSh
  refine va_calli (va_runV (As := [.int (nI 1)]) (rest := []) ⟨hx, hb, hml, hown, hG⟩ (k_Mo_refused1 l D g ad G M F N0 1 (by omega)) (aw_wV 1 hG gw_10_37 gw_10_35 gw_0_10 gw_10_36 gw_p_9 rfl rfl hd_Mo_refused ⟨Nat.le_of_ble_eq_true rfl, Nat.le_of_ble_eq_true rfl⟩) (aw_qV (va_recv hK hP rfl he2) hP hD hSh hU hS) rfl rfl hl.1 rfl (lv_room (Nat.le_of_ble_eq_true rfl)) d_Mo_free_13 ⟨Nat.le_of_ble_eq_true rfl, Nat.le_of_ble_eq_true rfl⟩) hS (fun _ _ h => h) (fun _ h => h) (fun x3 u8 t8 H locs ht _ hpx3 hB _ _ hS => ?_)
  obtain ⟨L, hP, hD, hSh⟩ := hB
  rw [ht] at hP
  clear ht
  subst hpx3
  refine lv_if_ne (tgt := 26) hx hb d_Mo_free_16 (by decide) (fun _ => ?_) (fun h => absurd h (by decide +kernel))
  exact W.vret hx hb hr (fun t ht hW => ⟨⟨(), rfl, trivial, aw_Hr ht hP hD hSh⟩, hS.F ht⟩) hS.2.2 d_Mo_free_26
abbrev ws_Mo_stage1 : List Cond := Cond.code y_Mo_stage b_Mo_stage 2 (some .int) :: aw_G
abbrev rm_Mo_stage1 : Room := { frames := 1, cells := 0, slots := 0, locals := 21 }
set_option maxHeartbeats 4000000 in
set_option maxRecDepth 100000 in
theorem k_Mo_stage1 (l : Launch) (D : va_G) (g : Nat → ClassId) (ad : Nat → Nat) (G M : Nat → Nat × Nat) (F : Int32) (N0 : Nat) (j : Nat) (hj : j < 4) : Met l y_Mo_stage ws_Mo_stage1 rm_Mo_stage1 (va_Pc ([.ref (aw_m ad 0), .int (nI j)] : List Value) (aw_B D g ad G M F N0)) (va_Qi (fun r (_ : Unit) => r = nI (M j).1) (fun (_ : Unit) t => aw_H D g ad G M (nI 0) N0 t.heap) (aw_Z N0)) 0 0 (aw_Z N0) := by
  refine Met.ofW (cc := b_Mo_stage) (maxL := 2) (ret := (some .int)) (by decide) rfl ?_
  intro p e s m args below meth c s₁ B hml hv
  obtain ⟨rfl, ⟨L, hP, hD, hSh⟩, hU⟩ := hv
  have hx := B.exec
  have hb := B.bytes
  have hr := B.returns
  have hG : ∀ w ∈ aw_G, w.before _ s = true := fun w h => atoms_spec (ws := ws_Mo_stage1) B.pre w (List.mem_cons_of_mem _ h)
  have hown : s.vm.findClass "RuleCiphersModel" = some m.cls := findClass_of_methodNamed B.named
  have hlocks := B.notSynchronized
  have hE := hU.1
  have hK := hE.1
  have hN := hE.2.1
  have hS : va_S (aw_Z N0) s.heap s.heap [] := va_S.rf
  have hl := lv_entry ([.ref (aw_m ad 0), .int (nI j)] : List Value) (n := 2) (Nat.le_of_ble_eq_true rfl)
  rw [lg_entry_eq]
  generalize (lg_sl ([.ref (aw_m ad 0), .int (nI j)] : List Value) ++ List.replicate (2 - (lg_sl ([.ref (aw_m ad 0), .int (nI j)] : List Value)).length) Slot.unset).toArray = ls at hl ⊢
  have hl : lv_has ls 2 [(0, .ref (aw_m ad 0)), (1, .int (nI j))] := hl
  refine lv_aload_n hx hb d_Mo_stage_0 rfl (lv_at hl 0 rfl) ?_
  refine lv_iload_n hx hb d_Mo_stage_1 rfl (lv_at hl 1 rfl) ?_
  refine aw_ci ((va_runS (As := [.int (nI j)]) (rest := [.ref (aw_m ad 0)]) ⟨hx, hb, hml, hown, hG⟩ (k_Mo_isContext1 l j hj) (aw_wS 1 hG gw_10_34 gw_10_32 gw_0_10 gw_10_33 rfl rfl hd_Mo_isContext ⟨Nat.le_of_ble_eq_true rfl, Nat.le_of_ble_eq_true rfl⟩) aw_p0 rfl rfl hl.1 rfl (lv_room (Nat.le_of_ble_eq_true rfl)) d_Mo_stage_2 ⟨Nat.le_of_ble_eq_true rfl, Nat.le_of_ble_eq_true rfl⟩).run) (fun x1 hx1 => ?_)
  subst hx1
  refine lv_if_eq (tgt := 12) hx hb d_Mo_stage_5 (by decide) (fun h => absurd h (by decide +kernel)) (fun _ => ?_)
  refine lv_iconst (v := nI 0) hx hb d_Mo_stage_8 (by decide +kernel) ?_
  refine lv_goto (tgt := 13) hx hb d_Mo_stage_9 (by decide) ?_
  obtain ⟨_, _, _, he2⟩ := rd_M0 hSh
  refine va_calli (va_runV (As := [.int (nI 0)]) (rest := []) ⟨hx, hb, hml, hown, hG⟩ (k_Mo_refused0 l D g ad G M F N0) (aw_wV 1 hG gw_10_37 gw_10_35 gw_0_10 gw_10_36 gw_p_9 rfl rfl hd_Mo_refused ⟨Nat.le_of_ble_eq_true rfl, Nat.le_of_ble_eq_true rfl⟩) (aw_qV (va_recv hK hP rfl he2) hP hD hSh hU hS) rfl rfl hl.1 rfl (lv_room (Nat.le_of_ble_eq_true rfl)) d_Mo_stage_13 ⟨Nat.le_of_ble_eq_true rfl, Nat.le_of_ble_eq_true rfl⟩) hS (fun _ _ h => h) (fun _ h => h) (fun x3 u8 t8 H locs ht _ hpx3 hB _ _ hS => ?_)
  obtain ⟨L, hP, hD, hSh⟩ := hB
  rw [ht] at hP
  clear ht
  subst hpx3
  refine lv_if_eq (tgt := 23) hx hb d_Mo_stage_16 (by decide) (fun _ => ?_) (fun h => absurd (by decide +kernel) h)
  refine lv_aload_n hx hb d_Mo_stage_23 rfl (lv_at hl 0 rfl) ?_
  obtain ⟨x5, o6, hw7, he4⟩ := rd_M0 hSh
  refine va_get (C := R_Mo) (T := T_Mo) (N := 19) (v := .ref (aw_m ad 2)) hx hb hG in_Mo hown hK hP 67 he4 rfl 2 (by decide) (hG _ gw_9_27) (fun _ h => h) rfl d_Mo_stage_24 ?_
  refine lv_iload_n hx hb d_Mo_stage_27 rfl (lv_at hl 1 rfl) ?_
  obtain ⟨f9, hc10, he8⟩ := rd_M2 hSh
  refine aw_ild hx hb hK hP 69 0 he8 rfl (k := j) (by omega) (by decide) d_Mo_stage_28 ?_
  refine aw_ti (y := nI (M j).1) (hc10 _ (by omega)) ?_
  have hm := hSh.2.2.2.2.2 j (by omega)
  exact W.iret hx hb hr (fun t ht hW => ⟨⟨_, (), rfl, rfl, aw_Hr ht hP hD hSh⟩, hS.F ht⟩) hS.2.2 d_Mo_stage_29
abbrev ws_Mo_stageXc : List Cond := Cond.code y_Mo_stage b_Mo_stage 2 (some .int) :: aw_G
abbrev rm_Mo_stageXc : Room := { frames := 1, cells := 0, slots := 0, locals := 21 }
set_option maxHeartbeats 4000000 in
set_option maxRecDepth 100000 in
theorem k_Mo_stageXc (l : Launch) (D : va_G) (g : Nat → ClassId) (ad : Nat → Nat) (G M : Nat → Nat × Nat) (F : Int32) (N0 : Nat) (c0 : Int32) (hc : c0 < 0 ∨ (¬ c0 < 0 ∧ ¬ c0 < nI 4)) : Met l y_Mo_stage ws_Mo_stageXc rm_Mo_stageXc (va_Pc ([.ref (aw_m ad 0), .int c0] : List Value) (aw_B D g ad G M F N0)) (va_Qi (fun r (_ : Unit) => True) (fun (_ : Unit) t => aw_H D g ad G M (nI 1) N0 t.heap) (aw_Z N0)) 0 0 (aw_Z N0) := by
  refine Met.ofW (cc := b_Mo_stage) (maxL := 2) (ret := (some .int)) (by decide) rfl ?_
  intro p e s m args below meth c s₁ B hml hv
  obtain ⟨rfl, ⟨L, hP, hD, hSh⟩, hU⟩ := hv
  have hx := B.exec
  have hb := B.bytes
  have hr := B.returns
  have hG : ∀ w ∈ aw_G, w.before _ s = true := fun w h => atoms_spec (ws := ws_Mo_stageXc) B.pre w (List.mem_cons_of_mem _ h)
  have hown : s.vm.findClass "RuleCiphersModel" = some m.cls := findClass_of_methodNamed B.named
  have hlocks := B.notSynchronized
  have hE := hU.1
  have hK := hE.1
  have hN := hE.2.1
  have hS : va_S (aw_Z N0) s.heap s.heap [] := va_S.rf
  have hl := lv_entry ([.ref (aw_m ad 0), .int c0] : List Value) (n := 2) (Nat.le_of_ble_eq_true rfl)
  rw [lg_entry_eq]
  generalize (lg_sl ([.ref (aw_m ad 0), .int c0] : List Value) ++ List.replicate (2 - (lg_sl ([.ref (aw_m ad 0), .int c0] : List Value)).length) Slot.unset).toArray = ls at hl ⊢
  have hl : lv_has ls 2 [(0, .ref (aw_m ad 0)), (1, .int c0)] := hl
  refine lv_aload_n hx hb d_Mo_stage_0 rfl (lv_at hl 0 rfl) ?_
  refine lv_iload_n hx hb d_Mo_stage_1 rfl (lv_at hl 1 rfl) ?_
  refine aw_ci ((va_runS (As := [.int c0]) (rest := [.ref (aw_m ad 0)]) ⟨hx, hb, hml, hown, hG⟩ (k_Mo_isContext0 l c0 hc) (aw_wS 1 hG gw_10_34 gw_10_32 gw_0_10 gw_10_33 rfl rfl hd_Mo_isContext ⟨Nat.le_of_ble_eq_true rfl, Nat.le_of_ble_eq_true rfl⟩) aw_p0 rfl rfl hl.1 rfl (lv_room (Nat.le_of_ble_eq_true rfl)) d_Mo_stage_2 ⟨Nat.le_of_ble_eq_true rfl, Nat.le_of_ble_eq_true rfl⟩).run) (fun x1 hx1 => ?_)
  subst hx1
  refine lv_if_eq (tgt := 12) hx hb d_Mo_stage_5 (by decide) (fun _ => ?_) (fun h => absurd (by decide +kernel) h)
  refine lv_iconst (v := nI 1) hx hb d_Mo_stage_12 (by decide +kernel) ?_
  obtain ⟨_, _, _, he2⟩ := rd_M0 hSh
  refine va_calli (va_runV (As := [.int (nI 1)]) (rest := []) ⟨hx, hb, hml, hown, hG⟩ (k_Mo_refused1 l D g ad G M F N0 1 (by omega)) (aw_wV 1 hG gw_10_37 gw_10_35 gw_0_10 gw_10_36 gw_p_9 rfl rfl hd_Mo_refused ⟨Nat.le_of_ble_eq_true rfl, Nat.le_of_ble_eq_true rfl⟩) (aw_qV (va_recv hK hP rfl he2) hP hD hSh hU hS) rfl rfl hl.1 rfl (lv_room (Nat.le_of_ble_eq_true rfl)) d_Mo_stage_13 ⟨Nat.le_of_ble_eq_true rfl, Nat.le_of_ble_eq_true rfl⟩) hS (fun _ _ h => h) (fun _ h => h) (fun x3 u8 t8 H locs ht _ hpx3 hB _ _ hS => ?_)
  obtain ⟨L, hP, hD, hSh⟩ := hB
  rw [ht] at hP
  clear ht
  subst hpx3
  refine lv_if_eq (tgt := 23) hx hb d_Mo_stage_16 (by decide) (fun h => absurd h (by decide +kernel)) (fun _ => ?_)
  refine lv_iconst (v := nI 0) hx hb d_Mo_stage_19 (by decide +kernel) ?_
  refine lv_goto (tgt := 29) hx hb d_Mo_stage_20 (by decide) ?_
  exact W.iret hx hb hr (fun t ht hW => ⟨⟨_, (), rfl, trivial, aw_Hr ht hP hD hSh⟩, hS.F ht⟩) hS.2.2 d_Mo_stage_29
abbrev ws_Mo_block1 : List Cond := Cond.code y_Mo_block b_Mo_block 5 (some .long) :: aw_G
abbrev rm_Mo_block1 : Room := { frames := 4, cells := 0, slots := 0, locals := 105 }
set_option maxHeartbeats 4000000 in
set_option maxRecDepth 100000 in
theorem k_Mo_block1 (l : Launch) (D : va_G) (g : Nat → ClassId) (ad : Nat → Nat) (G M : Nat → Nat × Nat) (F : Int32) (N0 : Nat) (j : Nat) (bk : Int32) (b : Int64) (hj : j < 4) (hs : 2 ≤ (M j).1) : Met l y_Mo_block ws_Mo_block1 rm_Mo_block1 (va_Pc ([.ref (aw_m ad 0), .int (nI j), .int bk, .long b] : List Value) (aw_B D g ad G M F N0)) (va_Ql (fun r (_ : Unit) => True) (fun (_ : Unit) t => ∃ F' : Int32, aw_H D g ad G M F' N0 t.heap) (aw_Z N0)) 0 0 (aw_Z N0) := by
  refine Met.ofW (cc := b_Mo_block) (maxL := 5) (ret := (some .long)) (by decide) rfl ?_
  intro p e s m args below meth c s₁ B hml hv
  obtain ⟨rfl, ⟨L, hP, hD, hSh⟩, hU⟩ := hv
  have hx := B.exec
  have hb := B.bytes
  have hr := B.returns
  have hG : ∀ w ∈ aw_G, w.before _ s = true := fun w h => atoms_spec (ws := ws_Mo_block1) B.pre w (List.mem_cons_of_mem _ h)
  have hown : s.vm.findClass "RuleCiphersModel" = some m.cls := findClass_of_methodNamed B.named
  have hlocks := B.notSynchronized
  have hE := hU.1
  have hK := hE.1
  have hN := hE.2.1
  have hS : va_S (aw_Z N0) s.heap s.heap [] := va_S.rf
  have hl := lv_entry ([.ref (aw_m ad 0), .int (nI j), .int bk, .long b] : List Value) (n := 5) (Nat.le_of_ble_eq_true rfl)
  rw [lg_entry_eq]
  generalize (lg_sl ([.ref (aw_m ad 0), .int (nI j), .int bk, .long b] : List Value) ++ List.replicate (5 - (lg_sl ([.ref (aw_m ad 0), .int (nI j), .int bk, .long b] : List Value)).length) Slot.unset).toArray = ls at hl ⊢
  have hl : lv_has ls 5 [(0, .ref (aw_m ad 0)), (1, .int (nI j)), (2, .int bk), (3, .long b)] := hl
  refine lv_aload_n hx hb d_Mo_block_0 rfl (lv_at hl 0 rfl) ?_
  refine lv_iload_n hx hb d_Mo_block_1 rfl (lv_at hl 1 rfl) ?_
  refine aw_ci ((va_runS (As := [.int (nI j)]) (rest := [.ref (aw_m ad 0)]) ⟨hx, hb, hml, hown, hG⟩ (k_Mo_isContext1 l j hj) (aw_wS 1 hG gw_10_34 gw_10_32 gw_0_10 gw_10_33 rfl rfl hd_Mo_isContext ⟨Nat.le_of_ble_eq_true rfl, Nat.le_of_ble_eq_true rfl⟩) aw_p0 rfl rfl hl.1 rfl (lv_room (Nat.le_of_ble_eq_true rfl)) d_Mo_block_2 ⟨Nat.le_of_ble_eq_true rfl, Nat.le_of_ble_eq_true rfl⟩).run) (fun x1 hx1 => ?_)
  subst hx1
  refine lv_if_ne (tgt := 12) hx hb d_Mo_block_5 (by decide) (fun _ => ?_) (fun h => absurd h (by decide +kernel))
  refine lv_aload_n hx hb d_Mo_block_12 rfl (lv_at hl 0 rfl) ?_
  refine lv_iload_n hx hb d_Mo_block_13 rfl (lv_at hl 1 rfl) ?_
  obtain ⟨_, _, _, he2⟩ := rd_M0 hSh
  refine va_calli (va_runV (As := [.int (nI j)]) (rest := [.ref (aw_m ad 0)]) ⟨hx, hb, hml, hown, hG⟩ (k_Mo_isKeyed1 l D g ad G M F N0 j hj hs) (aw_wV 1 hG gw_10_48 gw_10_46 gw_0_10 gw_10_47 gw_p_10 rfl rfl hd_Mo_isKeyed ⟨Nat.le_of_ble_eq_true rfl, Nat.le_of_ble_eq_true rfl⟩) (aw_qV (va_recv hK hP rfl he2) hP hD hSh hU hS) rfl rfl hl.1 rfl (lv_room (Nat.le_of_ble_eq_true rfl)) d_Mo_block_14 ⟨Nat.le_of_ble_eq_true rfl, Nat.le_of_ble_eq_true rfl⟩) hS (fun _ _ h => h) (fun _ h => h) (fun x3 u8 t8 H locs ht _ hpx3 hB _ _ hS => ?_)
  obtain ⟨L, hP, hD, hSh⟩ := hB
  rw [ht] at hP
  clear ht
  subst hpx3
  refine lv_if_ne (tgt := 24) hx hb d_Mo_block_17 (by decide) (fun _ => ?_) (fun h => absurd h (by decide +kernel))
  refine lv_iconst (v := nI 0) hx hb d_Mo_block_24 (by decide +kernel) ?_
  obtain ⟨_, _, _, he4⟩ := rd_M0 hSh
  refine va_calli (va_runV (As := [.int (nI 0)]) (rest := []) ⟨hx, hb, hml, hown, hG⟩ (k_Mo_refused0 l D g ad G M F N0) (aw_wV 1 hG gw_10_37 gw_10_35 gw_0_10 gw_10_36 gw_p_9 rfl rfl hd_Mo_refused ⟨Nat.le_of_ble_eq_true rfl, Nat.le_of_ble_eq_true rfl⟩) (aw_qV (va_recv hK hP rfl he4) hP hD hSh hU hS) rfl rfl hl.1 rfl (lv_room (Nat.le_of_ble_eq_true rfl)) d_Mo_block_25 ⟨Nat.le_of_ble_eq_true rfl, Nat.le_of_ble_eq_true rfl⟩) hS (fun _ _ h => h) (fun _ h => h) (fun x5 u8 t8 H locs ht _ hpx5 hB _ _ hS => ?_)
  obtain ⟨L, hP, hD, hSh⟩ := hB
  rw [ht] at hP
  clear ht
  subst hpx5
  refine lv_if_eq (tgt := 33) hx hb d_Mo_block_28 (by decide) (fun _ => ?_) (fun h => absurd (by decide +kernel) h)
  refine lv_aload_n hx hb d_Mo_block_33 rfl (lv_at hl 0 rfl) ?_
  refine lv_iload_n hx hb d_Mo_block_34 rfl (lv_at hl 1 rfl) ?_
  obtain ⟨_, _, _, he6⟩ := rd_M0 hSh
  refine va_callv (va_runV (As := [.int (nI j)]) (rest := []) ⟨hx, hb, hml, hown, hG⟩ (k_Mo_prepare l D g ad G M (nI 0) N0 j hj) (aw_wV 1 hG gw_11_6 gw_11_4 gw_0_10 gw_11_5 gw_p_12 rfl rfl hd_Mo_prepare ⟨Nat.le_of_ble_eq_true rfl, Nat.le_of_ble_eq_true rfl⟩) (aw_qV (va_recv hK hP rfl he6) hP hD hSh hU hS) rfl rfl hl.1 rfl (lv_room (Nat.le_of_ble_eq_true rfl)) d_Mo_block_35 ⟨Nat.le_of_ble_eq_true rfl, Nat.le_of_ble_eq_true rfl⟩) hS (fun _ _ h => h) (fun _ h => h) (fun u8 t8 H locs ht _ _ hB _ _ hS => ?_)
  obtain ⟨L, hP, hD, hSh⟩ := hB
  rw [ht] at hP
  clear ht
  refine lv_iload_n hx hb d_Mo_block_38 rfl (lv_at hl 2 rfl) ?_
  refine lv_if_eq (tgt := 50) hx hb d_Mo_block_39 (by decide) (fun hb7 => ?_) (fun hb7 => ?_)
  · refine lv_aload_n hx hb d_Mo_block_50 rfl (lv_at hl 0 rfl) ?_
    refine lv_lload_n hx hb d_Mo_block_51 rfl (lv_at hl 3 rfl) ?_
    obtain ⟨_, _, _, he8⟩ := rd_M0 hSh
    refine va_calll (va_runV (As := [.long b]) (rest := []) ⟨hx, hb, hml, hown, hG⟩ (k_Mo_on l D g ad G M (nI 0) N0 b) (aw_wV 1 hG gw_12_4 gw_12_2 gw_0_10 gw_12_3 gw_p_18 rfl rfl hd_Mo_on ⟨Nat.le_of_ble_eq_true rfl, Nat.le_of_ble_eq_true rfl⟩) (aw_qV (va_recv hK hP rfl he8) hP hD hSh hU hS) rfl rfl hl.1 rfl (lv_room (Nat.le_of_ble_eq_true rfl)) d_Mo_block_52 ⟨Nat.le_of_ble_eq_true rfl, Nat.le_of_ble_eq_true rfl⟩) hS (fun _ _ h => h) (fun _ h => h) (fun y9 u8 t8 H locs ht _ _ hB _ _ hS => ?_)
    obtain ⟨L, hP, hD, hSh⟩ := hB
    rw [ht] at hP
    clear ht
    exact W.lret hx hb hr (fun t ht hW => ⟨⟨_, (), rfl, trivial, ⟨_, aw_Hr ht hP hD hSh⟩⟩, hS.F ht⟩) hS.2.2 d_Mo_block_55
  · refine lv_aload_n hx hb d_Mo_block_42 rfl (lv_at hl 0 rfl) ?_
    refine lv_lload_n hx hb d_Mo_block_43 rfl (lv_at hl 3 rfl) ?_
    obtain ⟨_, _, _, he10⟩ := rd_M0 hSh
    refine va_calll (va_runV (As := [.long b]) (rest := []) ⟨hx, hb, hml, hown, hG⟩ (k_Mo_off l D g ad G M (nI 0) N0 b) (aw_wV 1 hG gw_11_39 gw_11_37 gw_0_10 gw_11_38 gw_p_16 rfl rfl hd_Mo_off ⟨Nat.le_of_ble_eq_true rfl, Nat.le_of_ble_eq_true rfl⟩) (aw_qV (va_recv hK hP rfl he10) hP hD hSh hU hS) rfl rfl hl.1 rfl (lv_room (Nat.le_of_ble_eq_true rfl)) d_Mo_block_44 ⟨Nat.le_of_ble_eq_true rfl, Nat.le_of_ble_eq_true rfl⟩) hS (fun _ _ h => h) (fun _ h => h) (fun y11 u8 t8 H locs ht _ _ hB _ _ hS => ?_)
    obtain ⟨L, hP, hD, hSh⟩ := hB
    rw [ht] at hP
    clear ht
    refine lv_goto (tgt := 55) hx hb d_Mo_block_47 (by decide) ?_
    exact W.lret hx hb hr (fun t ht hW => ⟨⟨_, (), rfl, trivial, ⟨_, aw_Hr ht hP hD hSh⟩⟩, hS.F ht⟩) hS.2.2 d_Mo_block_55
abbrev ws_Mo_blockXc : List Cond := Cond.code y_Mo_block b_Mo_block 5 (some .long) :: aw_G
abbrev rm_Mo_blockXc : Room := { frames := 4, cells := 0, slots := 0, locals := 105 }
set_option maxHeartbeats 4000000 in
set_option maxRecDepth 100000 in
theorem k_Mo_blockXc (l : Launch) (D : va_G) (g : Nat → ClassId) (ad : Nat → Nat) (G M : Nat → Nat × Nat) (F : Int32) (N0 : Nat) (c0 : Int32) (bk : Int32) (b : Int64) (hc : c0 < 0 ∨ (¬ c0 < 0 ∧ ¬ c0 < nI 4)) : Met l y_Mo_block ws_Mo_blockXc rm_Mo_blockXc (va_Pc ([.ref (aw_m ad 0), .int c0, .int bk, .long b] : List Value) (aw_B D g ad G M F N0)) (va_Ql (fun r (_ : Unit) => True) (fun (_ : Unit) t => ∃ F' : Int32, aw_H D g ad G M F' N0 t.heap) (aw_Z N0)) 0 0 (aw_Z N0) := by
  refine Met.ofW (cc := b_Mo_block) (maxL := 5) (ret := (some .long)) (by decide) rfl ?_
  intro p e s m args below meth c s₁ B hml hv
  obtain ⟨rfl, ⟨L, hP, hD, hSh⟩, hU⟩ := hv
  have hx := B.exec
  have hb := B.bytes
  have hr := B.returns
  have hG : ∀ w ∈ aw_G, w.before _ s = true := fun w h => atoms_spec (ws := ws_Mo_blockXc) B.pre w (List.mem_cons_of_mem _ h)
  have hown : s.vm.findClass "RuleCiphersModel" = some m.cls := findClass_of_methodNamed B.named
  have hlocks := B.notSynchronized
  have hE := hU.1
  have hK := hE.1
  have hN := hE.2.1
  have hS : va_S (aw_Z N0) s.heap s.heap [] := va_S.rf
  have hl := lv_entry ([.ref (aw_m ad 0), .int c0, .int bk, .long b] : List Value) (n := 5) (Nat.le_of_ble_eq_true rfl)
  rw [lg_entry_eq]
  generalize (lg_sl ([.ref (aw_m ad 0), .int c0, .int bk, .long b] : List Value) ++ List.replicate (5 - (lg_sl ([.ref (aw_m ad 0), .int c0, .int bk, .long b] : List Value)).length) Slot.unset).toArray = ls at hl ⊢
  have hl : lv_has ls 5 [(0, .ref (aw_m ad 0)), (1, .int c0), (2, .int bk), (3, .long b)] := hl
  refine lv_aload_n hx hb d_Mo_block_0 rfl (lv_at hl 0 rfl) ?_
  refine lv_iload_n hx hb d_Mo_block_1 rfl (lv_at hl 1 rfl) ?_
  refine aw_ci ((va_runS (As := [.int c0]) (rest := [.ref (aw_m ad 0)]) ⟨hx, hb, hml, hown, hG⟩ (k_Mo_isContext0 l c0 hc) (aw_wS 1 hG gw_10_34 gw_10_32 gw_0_10 gw_10_33 rfl rfl hd_Mo_isContext ⟨Nat.le_of_ble_eq_true rfl, Nat.le_of_ble_eq_true rfl⟩) aw_p0 rfl rfl hl.1 rfl (lv_room (Nat.le_of_ble_eq_true rfl)) d_Mo_block_2 ⟨Nat.le_of_ble_eq_true rfl, Nat.le_of_ble_eq_true rfl⟩).run) (fun x1 hx1 => ?_)
  subst hx1
  refine lv_if_ne (tgt := 12) hx hb d_Mo_block_5 (by decide) (fun h => absurd (by decide +kernel) h) (fun _ => ?_)
  refine lv_iconst (v := nI 1) hx hb d_Mo_block_8 (by decide +kernel) ?_
  refine lv_goto (tgt := 25) hx hb d_Mo_block_9 (by decide) ?_
  obtain ⟨_, _, _, he2⟩ := rd_M0 hSh
  refine va_calli (va_runV (As := [.int (nI 1)]) (rest := []) ⟨hx, hb, hml, hown, hG⟩ (k_Mo_refused1 l D g ad G M F N0 1 (by omega)) (aw_wV 1 hG gw_10_37 gw_10_35 gw_0_10 gw_10_36 gw_p_9 rfl rfl hd_Mo_refused ⟨Nat.le_of_ble_eq_true rfl, Nat.le_of_ble_eq_true rfl⟩) (aw_qV (va_recv hK hP rfl he2) hP hD hSh hU hS) rfl rfl hl.1 rfl (lv_room (Nat.le_of_ble_eq_true rfl)) d_Mo_block_25 ⟨Nat.le_of_ble_eq_true rfl, Nat.le_of_ble_eq_true rfl⟩) hS (fun _ _ h => h) (fun _ h => h) (fun x3 u8 t8 H locs ht _ hpx3 hB _ _ hS => ?_)
  obtain ⟨L, hP, hD, hSh⟩ := hB
  rw [ht] at hP
  clear ht
  subst hpx3
  refine lv_if_eq (tgt := 33) hx hb d_Mo_block_28 (by decide) (fun h => absurd h (by decide +kernel)) (fun _ => ?_)
  refine lv_lconst (v := 0) hx hb d_Mo_block_31 (by decide +kernel) ?_
  exact W.lret hx hb hr (fun t ht hW => ⟨⟨_, (), rfl, trivial, ⟨_, aw_Hr ht hP hD hSh⟩⟩, hS.F ht⟩) hS.2.2 d_Mo_block_32
abbrev ws_Mo_blockXs : List Cond := Cond.code y_Mo_block b_Mo_block 5 (some .long) :: aw_G
abbrev rm_Mo_blockXs : Room := { frames := 4, cells := 0, slots := 0, locals := 105 }
set_option maxHeartbeats 4000000 in
set_option maxRecDepth 100000 in
theorem k_Mo_blockXs (l : Launch) (D : va_G) (g : Nat → ClassId) (ad : Nat → Nat) (G M : Nat → Nat × Nat) (F : Int32) (N0 : Nat) (j : Nat) (bk : Int32) (b : Int64) (hj : j < 4) (hs : (M j).1 ≤ 1) : Met l y_Mo_block ws_Mo_blockXs rm_Mo_blockXs (va_Pc ([.ref (aw_m ad 0), .int (nI j), .int bk, .long b] : List Value) (aw_B D g ad G M F N0)) (va_Ql (fun r (_ : Unit) => True) (fun (_ : Unit) t => ∃ F' : Int32, aw_H D g ad G M F' N0 t.heap) (aw_Z N0)) 0 0 (aw_Z N0) := by
  refine Met.ofW (cc := b_Mo_block) (maxL := 5) (ret := (some .long)) (by decide) rfl ?_
  intro p e s m args below meth c s₁ B hml hv
  obtain ⟨rfl, ⟨L, hP, hD, hSh⟩, hU⟩ := hv
  have hx := B.exec
  have hb := B.bytes
  have hr := B.returns
  have hG : ∀ w ∈ aw_G, w.before _ s = true := fun w h => atoms_spec (ws := ws_Mo_blockXs) B.pre w (List.mem_cons_of_mem _ h)
  have hown : s.vm.findClass "RuleCiphersModel" = some m.cls := findClass_of_methodNamed B.named
  have hlocks := B.notSynchronized
  have hE := hU.1
  have hK := hE.1
  have hN := hE.2.1
  have hS : va_S (aw_Z N0) s.heap s.heap [] := va_S.rf
  have hl := lv_entry ([.ref (aw_m ad 0), .int (nI j), .int bk, .long b] : List Value) (n := 5) (Nat.le_of_ble_eq_true rfl)
  rw [lg_entry_eq]
  generalize (lg_sl ([.ref (aw_m ad 0), .int (nI j), .int bk, .long b] : List Value) ++ List.replicate (5 - (lg_sl ([.ref (aw_m ad 0), .int (nI j), .int bk, .long b] : List Value)).length) Slot.unset).toArray = ls at hl ⊢
  have hl : lv_has ls 5 [(0, .ref (aw_m ad 0)), (1, .int (nI j)), (2, .int bk), (3, .long b)] := hl
  refine lv_aload_n hx hb d_Mo_block_0 rfl (lv_at hl 0 rfl) ?_
  refine lv_iload_n hx hb d_Mo_block_1 rfl (lv_at hl 1 rfl) ?_
  refine aw_ci ((va_runS (As := [.int (nI j)]) (rest := [.ref (aw_m ad 0)]) ⟨hx, hb, hml, hown, hG⟩ (k_Mo_isContext1 l j hj) (aw_wS 1 hG gw_10_34 gw_10_32 gw_0_10 gw_10_33 rfl rfl hd_Mo_isContext ⟨Nat.le_of_ble_eq_true rfl, Nat.le_of_ble_eq_true rfl⟩) aw_p0 rfl rfl hl.1 rfl (lv_room (Nat.le_of_ble_eq_true rfl)) d_Mo_block_2 ⟨Nat.le_of_ble_eq_true rfl, Nat.le_of_ble_eq_true rfl⟩).run) (fun x1 hx1 => ?_)
  subst hx1
  refine lv_if_ne (tgt := 12) hx hb d_Mo_block_5 (by decide) (fun _ => ?_) (fun h => absurd h (by decide +kernel))
  refine lv_aload_n hx hb d_Mo_block_12 rfl (lv_at hl 0 rfl) ?_
  refine lv_iload_n hx hb d_Mo_block_13 rfl (lv_at hl 1 rfl) ?_
  obtain ⟨_, _, _, he2⟩ := rd_M0 hSh
  refine va_calli (va_runV (As := [.int (nI j)]) (rest := [.ref (aw_m ad 0)]) ⟨hx, hb, hml, hown, hG⟩ (k_Mo_isKeyed0 l D g ad G M F N0 j hj hs) (aw_wV 1 hG gw_10_48 gw_10_46 gw_0_10 gw_10_47 gw_p_10 rfl rfl hd_Mo_isKeyed ⟨Nat.le_of_ble_eq_true rfl, Nat.le_of_ble_eq_true rfl⟩) (aw_qV (va_recv hK hP rfl he2) hP hD hSh hU hS) rfl rfl hl.1 rfl (lv_room (Nat.le_of_ble_eq_true rfl)) d_Mo_block_14 ⟨Nat.le_of_ble_eq_true rfl, Nat.le_of_ble_eq_true rfl⟩) hS (fun _ _ h => h) (fun _ h => h) (fun x3 u8 t8 H locs ht _ hpx3 hB _ _ hS => ?_)
  obtain ⟨L, hP, hD, hSh⟩ := hB
  rw [ht] at hP
  clear ht
  subst hpx3
  refine lv_if_ne (tgt := 24) hx hb d_Mo_block_17 (by decide) (fun h => absurd (by decide +kernel) h) (fun _ => ?_)
  refine lv_iconst (v := nI 2) hx hb d_Mo_block_20 (by decide +kernel) ?_
  refine lv_goto (tgt := 25) hx hb d_Mo_block_21 (by decide) ?_
  obtain ⟨_, _, _, he4⟩ := rd_M0 hSh
  refine va_calli (va_runV (As := [.int (nI 2)]) (rest := []) ⟨hx, hb, hml, hown, hG⟩ (k_Mo_refused1 l D g ad G M F N0 2 (by omega)) (aw_wV 1 hG gw_10_37 gw_10_35 gw_0_10 gw_10_36 gw_p_9 rfl rfl hd_Mo_refused ⟨Nat.le_of_ble_eq_true rfl, Nat.le_of_ble_eq_true rfl⟩) (aw_qV (va_recv hK hP rfl he4) hP hD hSh hU hS) rfl rfl hl.1 rfl (lv_room (Nat.le_of_ble_eq_true rfl)) d_Mo_block_25 ⟨Nat.le_of_ble_eq_true rfl, Nat.le_of_ble_eq_true rfl⟩) hS (fun _ _ h => h) (fun _ h => h) (fun x5 u8 t8 H locs ht _ hpx5 hB _ _ hS => ?_)
  obtain ⟨L, hP, hD, hSh⟩ := hB
  rw [ht] at hP
  clear ht
  subst hpx5
  refine lv_if_eq (tgt := 33) hx hb d_Mo_block_28 (by decide) (fun h => absurd h (by decide +kernel)) (fun _ => ?_)
  refine lv_lconst (v := 0) hx hb d_Mo_block_31 (by decide +kernel) ?_
  exact W.lret hx hb hr (fun t ht hW => ⟨⟨_, (), rfl, trivial, ⟨_, aw_Hr ht hP hD hSh⟩⟩, hS.F ht⟩) hS.2.2 d_Mo_block_32
abbrev ws_Mo_word1 : List Cond := Cond.code y_Mo_word b_Mo_word 3 (some .int) :: aw_G
abbrev rm_Mo_word1 : Room := { frames := 4, cells := 0, slots := 0, locals := 94 }
set_option maxHeartbeats 4000000 in
set_option maxRecDepth 100000 in
theorem k_Mo_word1 (l : Launch) (D : va_G) (g : Nat → ClassId) (ad : Nat → Nat) (G M : Nat → Nat × Nat) (F : Int32) (N0 : Nat) (j : Nat) (i : Int32) (hj : j < 4) (hs : 2 ≤ (M j).1) : Met l y_Mo_word ws_Mo_word1 rm_Mo_word1 (va_Pc ([.ref (aw_m ad 0), .int (nI j), .int i] : List Value) (aw_B D g ad G M F N0)) (va_Qi (fun r (_ : Unit) => True) (fun (_ : Unit) t => ∃ F' : Int32, aw_H D g ad G M F' N0 t.heap) (aw_Z N0)) 0 0 (aw_Z N0) := by
  refine Met.ofW (cc := b_Mo_word) (maxL := 3) (ret := (some .int)) (by decide) rfl ?_
  intro p e s m args below meth c s₁ B hml hv
  obtain ⟨rfl, ⟨L, hP, hD, hSh⟩, hU⟩ := hv
  have hx := B.exec
  have hb := B.bytes
  have hr := B.returns
  have hG : ∀ w ∈ aw_G, w.before _ s = true := fun w h => atoms_spec (ws := ws_Mo_word1) B.pre w (List.mem_cons_of_mem _ h)
  have hown : s.vm.findClass "RuleCiphersModel" = some m.cls := findClass_of_methodNamed B.named
  have hlocks := B.notSynchronized
  have hE := hU.1
  have hK := hE.1
  have hN := hE.2.1
  have hS : va_S (aw_Z N0) s.heap s.heap [] := va_S.rf
  have hl := lv_entry ([.ref (aw_m ad 0), .int (nI j), .int i] : List Value) (n := 3) (Nat.le_of_ble_eq_true rfl)
  rw [lg_entry_eq]
  generalize (lg_sl ([.ref (aw_m ad 0), .int (nI j), .int i] : List Value) ++ List.replicate (3 - (lg_sl ([.ref (aw_m ad 0), .int (nI j), .int i] : List Value)).length) Slot.unset).toArray = ls at hl ⊢
  have hl : lv_has ls 3 [(0, .ref (aw_m ad 0)), (1, .int (nI j)), (2, .int i)] := hl
  refine lv_aload_n hx hb d_Mo_word_0 rfl (lv_at hl 0 rfl) ?_
  refine lv_iload_n hx hb d_Mo_word_1 rfl (lv_at hl 1 rfl) ?_
  refine aw_ci ((va_runS (As := [.int (nI j)]) (rest := [.ref (aw_m ad 0)]) ⟨hx, hb, hml, hown, hG⟩ (k_Mo_isContext1 l j hj) (aw_wS 1 hG gw_10_34 gw_10_32 gw_0_10 gw_10_33 rfl rfl hd_Mo_isContext ⟨Nat.le_of_ble_eq_true rfl, Nat.le_of_ble_eq_true rfl⟩) aw_p0 rfl rfl hl.1 rfl (lv_room (Nat.le_of_ble_eq_true rfl)) d_Mo_word_2 ⟨Nat.le_of_ble_eq_true rfl, Nat.le_of_ble_eq_true rfl⟩).run) (fun x1 hx1 => ?_)
  subst hx1
  refine lv_if_ne (tgt := 12) hx hb d_Mo_word_5 (by decide) (fun _ => ?_) (fun h => absurd h (by decide +kernel))
  refine lv_aload_n hx hb d_Mo_word_12 rfl (lv_at hl 0 rfl) ?_
  refine lv_iload_n hx hb d_Mo_word_13 rfl (lv_at hl 1 rfl) ?_
  obtain ⟨_, _, _, he2⟩ := rd_M0 hSh
  refine va_calli (va_runV (As := [.int (nI j)]) (rest := [.ref (aw_m ad 0)]) ⟨hx, hb, hml, hown, hG⟩ (k_Mo_isKeyed1 l D g ad G M F N0 j hj hs) (aw_wV 1 hG gw_10_48 gw_10_46 gw_0_10 gw_10_47 gw_p_10 rfl rfl hd_Mo_isKeyed ⟨Nat.le_of_ble_eq_true rfl, Nat.le_of_ble_eq_true rfl⟩) (aw_qV (va_recv hK hP rfl he2) hP hD hSh hU hS) rfl rfl hl.1 rfl (lv_room (Nat.le_of_ble_eq_true rfl)) d_Mo_word_14 ⟨Nat.le_of_ble_eq_true rfl, Nat.le_of_ble_eq_true rfl⟩) hS (fun _ _ h => h) (fun _ h => h) (fun x3 u8 t8 H locs ht _ hpx3 hB _ _ hS => ?_)
  obtain ⟨L, hP, hD, hSh⟩ := hB
  rw [ht] at hP
  clear ht
  subst hpx3
  refine lv_if_ne (tgt := 24) hx hb d_Mo_word_17 (by decide) (fun _ => ?_) (fun h => absurd h (by decide +kernel))
  refine lv_iconst (v := nI 0) hx hb d_Mo_word_24 (by decide +kernel) ?_
  obtain ⟨_, _, _, he4⟩ := rd_M0 hSh
  refine va_calli (va_runV (As := [.int (nI 0)]) (rest := []) ⟨hx, hb, hml, hown, hG⟩ (k_Mo_refused0 l D g ad G M F N0) (aw_wV 1 hG gw_10_37 gw_10_35 gw_0_10 gw_10_36 gw_p_9 rfl rfl hd_Mo_refused ⟨Nat.le_of_ble_eq_true rfl, Nat.le_of_ble_eq_true rfl⟩) (aw_qV (va_recv hK hP rfl he4) hP hD hSh hU hS) rfl rfl hl.1 rfl (lv_room (Nat.le_of_ble_eq_true rfl)) d_Mo_word_25 ⟨Nat.le_of_ble_eq_true rfl, Nat.le_of_ble_eq_true rfl⟩) hS (fun _ _ h => h) (fun _ h => h) (fun x5 u8 t8 H locs ht _ hpx5 hB _ _ hS => ?_)
  obtain ⟨L, hP, hD, hSh⟩ := hB
  rw [ht] at hP
  clear ht
  subst hpx5
  refine lv_if_eq (tgt := 33) hx hb d_Mo_word_28 (by decide) (fun _ => ?_) (fun h => absurd (by decide +kernel) h)
  refine lv_aload_n hx hb d_Mo_word_33 rfl (lv_at hl 0 rfl) ?_
  refine lv_iload_n hx hb d_Mo_word_34 rfl (lv_at hl 1 rfl) ?_
  obtain ⟨_, _, _, he6⟩ := rd_M0 hSh
  refine va_callv (va_runV (As := [.int (nI j)]) (rest := []) ⟨hx, hb, hml, hown, hG⟩ (k_Mo_prepare l D g ad G M (nI 0) N0 j hj) (aw_wV 1 hG gw_11_6 gw_11_4 gw_0_10 gw_11_5 gw_p_12 rfl rfl hd_Mo_prepare ⟨Nat.le_of_ble_eq_true rfl, Nat.le_of_ble_eq_true rfl⟩) (aw_qV (va_recv hK hP rfl he6) hP hD hSh hU hS) rfl rfl hl.1 rfl (lv_room (Nat.le_of_ble_eq_true rfl)) d_Mo_word_35 ⟨Nat.le_of_ble_eq_true rfl, Nat.le_of_ble_eq_true rfl⟩) hS (fun _ _ h => h) (fun _ h => h) (fun u8 t8 H locs ht _ _ hB _ _ hS => ?_)
  obtain ⟨L, hP, hD, hSh⟩ := hB
  rw [ht] at hP
  clear ht
  refine lv_iload_n hx hb d_Mo_word_38 rfl (lv_at hl 2 rfl) ?_
  refine lv_if_lt (tgt := 50) hx hb d_Mo_word_39 (by decide) (fun hb7 => ?_) (fun hb7 => ?_)
  · refine lv_iconst (v := (-1)) hx hb d_Mo_word_50 (by decide +kernel) ?_
    refine lv_goto (tgt := 60) hx hb d_Mo_word_51 (by decide) ?_
    exact W.iret hx hb hr (fun t ht hW => ⟨⟨_, (), rfl, trivial, ⟨_, aw_Hr ht hP hD hSh⟩⟩, hS.F ht⟩) hS.2.2 d_Mo_word_60
  · refine lv_iload_n hx hb d_Mo_word_42 rfl (lv_at hl 2 rfl) ?_
    refine lv_aload_n hx hb d_Mo_word_43 rfl (lv_at hl 0 rfl) ?_
    obtain ⟨x9, o10, hw11, he8⟩ := rd_M0 hSh
    refine va_get (C := R_Mo) (T := T_Mo) (N := 19) (v := .int (nI o10)) hx hb hG in_Mo hown hK hP 67 he8 rfl 16 (by decide) (hG _ gw_9_41) (fun _ h => h) rfl d_Mo_word_44 ?_
    refine lv_icmp_lt (tgt := 54) hx hb d_Mo_word_47 (by decide) (fun hb12 => ?_) (fun hb12 => ?_)
    · refine lv_aload_n hx hb d_Mo_word_54 rfl (lv_at hl 0 rfl) ?_
      obtain ⟨x14, o15, hw16, he13⟩ := rd_M0 hSh
      refine va_get (C := R_Mo) (T := T_Mo) (N := 19) (v := .ref (aw_m ad 15)) hx hb hG in_Mo hown hK hP 67 he13 rfl 17 (by decide) (hG _ gw_9_42) (fun _ h => h) rfl d_Mo_word_55 ?_
      refine lv_iload_n hx hb d_Mo_word_58 rfl (lv_at hl 2 rfl) ?_
      obtain ⟨f18, he17⟩ := rd_M15 hSh
      obtain ⟨k19, hk19, ek19⟩ := aw_place (n := o10) hb7 hb12 (by omega)
      refine aw_ti (y := nI k19) ek19 ?_
      refine aw_ild hx hb hK hP 82 0 he17 rfl (k := k19) (by omega) (by decide) d_Mo_word_59 ?_
      refine lv_topi (fun x20 _ => ?_)
      exact W.iret hx hb hr (fun t ht hW => ⟨⟨_, (), rfl, trivial, ⟨_, aw_Hr ht hP hD hSh⟩⟩, hS.F ht⟩) hS.2.2 d_Mo_word_60
    · refine lv_iconst (v := (-1)) hx hb d_Mo_word_50 (by decide +kernel) ?_
      refine lv_goto (tgt := 60) hx hb d_Mo_word_51 (by decide) ?_
      exact W.iret hx hb hr (fun t ht hW => ⟨⟨_, (), rfl, trivial, ⟨_, aw_Hr ht hP hD hSh⟩⟩, hS.F ht⟩) hS.2.2 d_Mo_word_60
abbrev ws_Mo_wordXc : List Cond := Cond.code y_Mo_word b_Mo_word 3 (some .int) :: aw_G
abbrev rm_Mo_wordXc : Room := { frames := 4, cells := 0, slots := 0, locals := 94 }
set_option maxHeartbeats 4000000 in
set_option maxRecDepth 100000 in
theorem k_Mo_wordXc (l : Launch) (D : va_G) (g : Nat → ClassId) (ad : Nat → Nat) (G M : Nat → Nat × Nat) (F : Int32) (N0 : Nat) (c0 : Int32) (i : Int32) (hc : c0 < 0 ∨ (¬ c0 < 0 ∧ ¬ c0 < nI 4)) : Met l y_Mo_word ws_Mo_wordXc rm_Mo_wordXc (va_Pc ([.ref (aw_m ad 0), .int c0, .int i] : List Value) (aw_B D g ad G M F N0)) (va_Qi (fun r (_ : Unit) => True) (fun (_ : Unit) t => ∃ F' : Int32, aw_H D g ad G M F' N0 t.heap) (aw_Z N0)) 0 0 (aw_Z N0) := by
  refine Met.ofW (cc := b_Mo_word) (maxL := 3) (ret := (some .int)) (by decide) rfl ?_
  intro p e s m args below meth c s₁ B hml hv
  obtain ⟨rfl, ⟨L, hP, hD, hSh⟩, hU⟩ := hv
  have hx := B.exec
  have hb := B.bytes
  have hr := B.returns
  have hG : ∀ w ∈ aw_G, w.before _ s = true := fun w h => atoms_spec (ws := ws_Mo_wordXc) B.pre w (List.mem_cons_of_mem _ h)
  have hown : s.vm.findClass "RuleCiphersModel" = some m.cls := findClass_of_methodNamed B.named
  have hlocks := B.notSynchronized
  have hE := hU.1
  have hK := hE.1
  have hN := hE.2.1
  have hS : va_S (aw_Z N0) s.heap s.heap [] := va_S.rf
  have hl := lv_entry ([.ref (aw_m ad 0), .int c0, .int i] : List Value) (n := 3) (Nat.le_of_ble_eq_true rfl)
  rw [lg_entry_eq]
  generalize (lg_sl ([.ref (aw_m ad 0), .int c0, .int i] : List Value) ++ List.replicate (3 - (lg_sl ([.ref (aw_m ad 0), .int c0, .int i] : List Value)).length) Slot.unset).toArray = ls at hl ⊢
  have hl : lv_has ls 3 [(0, .ref (aw_m ad 0)), (1, .int c0), (2, .int i)] := hl
  refine lv_aload_n hx hb d_Mo_word_0 rfl (lv_at hl 0 rfl) ?_
  refine lv_iload_n hx hb d_Mo_word_1 rfl (lv_at hl 1 rfl) ?_
  refine aw_ci ((va_runS (As := [.int c0]) (rest := [.ref (aw_m ad 0)]) ⟨hx, hb, hml, hown, hG⟩ (k_Mo_isContext0 l c0 hc) (aw_wS 1 hG gw_10_34 gw_10_32 gw_0_10 gw_10_33 rfl rfl hd_Mo_isContext ⟨Nat.le_of_ble_eq_true rfl, Nat.le_of_ble_eq_true rfl⟩) aw_p0 rfl rfl hl.1 rfl (lv_room (Nat.le_of_ble_eq_true rfl)) d_Mo_word_2 ⟨Nat.le_of_ble_eq_true rfl, Nat.le_of_ble_eq_true rfl⟩).run) (fun x1 hx1 => ?_)
  subst hx1
  refine lv_if_ne (tgt := 12) hx hb d_Mo_word_5 (by decide) (fun h => absurd (by decide +kernel) h) (fun _ => ?_)
  refine lv_iconst (v := nI 1) hx hb d_Mo_word_8 (by decide +kernel) ?_
  refine lv_goto (tgt := 25) hx hb d_Mo_word_9 (by decide) ?_
  obtain ⟨_, _, _, he2⟩ := rd_M0 hSh
  refine va_calli (va_runV (As := [.int (nI 1)]) (rest := []) ⟨hx, hb, hml, hown, hG⟩ (k_Mo_refused1 l D g ad G M F N0 1 (by omega)) (aw_wV 1 hG gw_10_37 gw_10_35 gw_0_10 gw_10_36 gw_p_9 rfl rfl hd_Mo_refused ⟨Nat.le_of_ble_eq_true rfl, Nat.le_of_ble_eq_true rfl⟩) (aw_qV (va_recv hK hP rfl he2) hP hD hSh hU hS) rfl rfl hl.1 rfl (lv_room (Nat.le_of_ble_eq_true rfl)) d_Mo_word_25 ⟨Nat.le_of_ble_eq_true rfl, Nat.le_of_ble_eq_true rfl⟩) hS (fun _ _ h => h) (fun _ h => h) (fun x3 u8 t8 H locs ht _ hpx3 hB _ _ hS => ?_)
  obtain ⟨L, hP, hD, hSh⟩ := hB
  rw [ht] at hP
  clear ht
  subst hpx3
  refine lv_if_eq (tgt := 33) hx hb d_Mo_word_28 (by decide) (fun h => absurd h (by decide +kernel)) (fun _ => ?_)
  refine lv_iconst (v := nI 0) hx hb d_Mo_word_31 (by decide +kernel) ?_
  exact W.iret hx hb hr (fun t ht hW => ⟨⟨_, (), rfl, trivial, ⟨_, aw_Hr ht hP hD hSh⟩⟩, hS.F ht⟩) hS.2.2 d_Mo_word_32
abbrev ws_Mo_wordXs : List Cond := Cond.code y_Mo_word b_Mo_word 3 (some .int) :: aw_G
abbrev rm_Mo_wordXs : Room := { frames := 4, cells := 0, slots := 0, locals := 94 }
set_option maxHeartbeats 4000000 in
set_option maxRecDepth 100000 in
theorem k_Mo_wordXs (l : Launch) (D : va_G) (g : Nat → ClassId) (ad : Nat → Nat) (G M : Nat → Nat × Nat) (F : Int32) (N0 : Nat) (j : Nat) (i : Int32) (hj : j < 4) (hs : (M j).1 ≤ 1) : Met l y_Mo_word ws_Mo_wordXs rm_Mo_wordXs (va_Pc ([.ref (aw_m ad 0), .int (nI j), .int i] : List Value) (aw_B D g ad G M F N0)) (va_Qi (fun r (_ : Unit) => True) (fun (_ : Unit) t => ∃ F' : Int32, aw_H D g ad G M F' N0 t.heap) (aw_Z N0)) 0 0 (aw_Z N0) := by
  refine Met.ofW (cc := b_Mo_word) (maxL := 3) (ret := (some .int)) (by decide) rfl ?_
  intro p e s m args below meth c s₁ B hml hv
  obtain ⟨rfl, ⟨L, hP, hD, hSh⟩, hU⟩ := hv
  have hx := B.exec
  have hb := B.bytes
  have hr := B.returns
  have hG : ∀ w ∈ aw_G, w.before _ s = true := fun w h => atoms_spec (ws := ws_Mo_wordXs) B.pre w (List.mem_cons_of_mem _ h)
  have hown : s.vm.findClass "RuleCiphersModel" = some m.cls := findClass_of_methodNamed B.named
  have hlocks := B.notSynchronized
  have hE := hU.1
  have hK := hE.1
  have hN := hE.2.1
  have hS : va_S (aw_Z N0) s.heap s.heap [] := va_S.rf
  have hl := lv_entry ([.ref (aw_m ad 0), .int (nI j), .int i] : List Value) (n := 3) (Nat.le_of_ble_eq_true rfl)
  rw [lg_entry_eq]
  generalize (lg_sl ([.ref (aw_m ad 0), .int (nI j), .int i] : List Value) ++ List.replicate (3 - (lg_sl ([.ref (aw_m ad 0), .int (nI j), .int i] : List Value)).length) Slot.unset).toArray = ls at hl ⊢
  have hl : lv_has ls 3 [(0, .ref (aw_m ad 0)), (1, .int (nI j)), (2, .int i)] := hl
  refine lv_aload_n hx hb d_Mo_word_0 rfl (lv_at hl 0 rfl) ?_
  refine lv_iload_n hx hb d_Mo_word_1 rfl (lv_at hl 1 rfl) ?_
  refine aw_ci ((va_runS (As := [.int (nI j)]) (rest := [.ref (aw_m ad 0)]) ⟨hx, hb, hml, hown, hG⟩ (k_Mo_isContext1 l j hj) (aw_wS 1 hG gw_10_34 gw_10_32 gw_0_10 gw_10_33 rfl rfl hd_Mo_isContext ⟨Nat.le_of_ble_eq_true rfl, Nat.le_of_ble_eq_true rfl⟩) aw_p0 rfl rfl hl.1 rfl (lv_room (Nat.le_of_ble_eq_true rfl)) d_Mo_word_2 ⟨Nat.le_of_ble_eq_true rfl, Nat.le_of_ble_eq_true rfl⟩).run) (fun x1 hx1 => ?_)
  subst hx1
  refine lv_if_ne (tgt := 12) hx hb d_Mo_word_5 (by decide) (fun _ => ?_) (fun h => absurd h (by decide +kernel))
  refine lv_aload_n hx hb d_Mo_word_12 rfl (lv_at hl 0 rfl) ?_
  refine lv_iload_n hx hb d_Mo_word_13 rfl (lv_at hl 1 rfl) ?_
  obtain ⟨_, _, _, he2⟩ := rd_M0 hSh
  refine va_calli (va_runV (As := [.int (nI j)]) (rest := [.ref (aw_m ad 0)]) ⟨hx, hb, hml, hown, hG⟩ (k_Mo_isKeyed0 l D g ad G M F N0 j hj hs) (aw_wV 1 hG gw_10_48 gw_10_46 gw_0_10 gw_10_47 gw_p_10 rfl rfl hd_Mo_isKeyed ⟨Nat.le_of_ble_eq_true rfl, Nat.le_of_ble_eq_true rfl⟩) (aw_qV (va_recv hK hP rfl he2) hP hD hSh hU hS) rfl rfl hl.1 rfl (lv_room (Nat.le_of_ble_eq_true rfl)) d_Mo_word_14 ⟨Nat.le_of_ble_eq_true rfl, Nat.le_of_ble_eq_true rfl⟩) hS (fun _ _ h => h) (fun _ h => h) (fun x3 u8 t8 H locs ht _ hpx3 hB _ _ hS => ?_)
  obtain ⟨L, hP, hD, hSh⟩ := hB
  rw [ht] at hP
  clear ht
  subst hpx3
  refine lv_if_ne (tgt := 24) hx hb d_Mo_word_17 (by decide) (fun h => absurd (by decide +kernel) h) (fun _ => ?_)
  refine lv_iconst (v := nI 2) hx hb d_Mo_word_20 (by decide +kernel) ?_
  refine lv_goto (tgt := 25) hx hb d_Mo_word_21 (by decide) ?_
  obtain ⟨_, _, _, he4⟩ := rd_M0 hSh
  refine va_calli (va_runV (As := [.int (nI 2)]) (rest := []) ⟨hx, hb, hml, hown, hG⟩ (k_Mo_refused1 l D g ad G M F N0 2 (by omega)) (aw_wV 1 hG gw_10_37 gw_10_35 gw_0_10 gw_10_36 gw_p_9 rfl rfl hd_Mo_refused ⟨Nat.le_of_ble_eq_true rfl, Nat.le_of_ble_eq_true rfl⟩) (aw_qV (va_recv hK hP rfl he4) hP hD hSh hU hS) rfl rfl hl.1 rfl (lv_room (Nat.le_of_ble_eq_true rfl)) d_Mo_word_25 ⟨Nat.le_of_ble_eq_true rfl, Nat.le_of_ble_eq_true rfl⟩) hS (fun _ _ h => h) (fun _ h => h) (fun x5 u8 t8 H locs ht _ hpx5 hB _ _ hS => ?_)
  obtain ⟨L, hP, hD, hSh⟩ := hB
  rw [ht] at hP
  clear ht
  subst hpx5
  refine lv_if_eq (tgt := 33) hx hb d_Mo_word_28 (by decide) (fun h => absurd h (by decide +kernel)) (fun _ => ?_)
  refine lv_iconst (v := nI 0) hx hb d_Mo_word_31 (by decide +kernel) ?_
  exact W.iret hx hb hr (fun t ht hW => ⟨⟨_, (), rfl, trivial, ⟨_, aw_Hr ht hP hD hSh⟩⟩, hS.F ht⟩) hS.2.2 d_Mo_word_32
abbrev ws_Mo_put1 : List Cond := Cond.code y_Mo_put b_Mo_put 3 none :: aw_G
abbrev rm_Mo_put1 : Room := { frames := 1, cells := 0, slots := 0, locals := 21 }
set_option maxHeartbeats 4000000 in
set_option maxRecDepth 100000 in
theorem k_Mo_put1 (l : Launch) (D : va_G) (g : Nat → ClassId) (ad : Nat → Nat) (G M : Nat → Nat × Nat) (F : Int32) (N0 : Nat) (k : Nat) (b : Int32) (hk : k < 64) : Met l y_Mo_put ws_Mo_put1 rm_Mo_put1 (va_Pc ([.ref (aw_m ad 0), .int (nI k), .int b] : List Value) (aw_B D g ad G M F N0)) (va_Qv (fun (_ : Unit) => True) (fun (_ : Unit) t => aw_H D g ad G M (nI 0) N0 t.heap) (aw_Z N0)) 0 0 (aw_Z N0) := by
  refine Met.ofW (cc := b_Mo_put) (maxL := 3) (ret := none) (by decide) rfl ?_
  intro p e s m args below meth c s₁ B hml hv
  obtain ⟨rfl, ⟨L, hP, hD, hSh⟩, hU⟩ := hv
  have hx := B.exec
  have hb := B.bytes
  have hr := B.returns
  have hG : ∀ w ∈ aw_G, w.before _ s = true := fun w h => atoms_spec (ws := ws_Mo_put1) B.pre w (List.mem_cons_of_mem _ h)
  have hown : s.vm.findClass "RuleCiphersModel" = some m.cls := findClass_of_methodNamed B.named
  have hlocks := B.notSynchronized
  have hE := hU.1
  have hK := hE.1
  have hN := hE.2.1
  have hS : va_S (aw_Z N0) s.heap s.heap [] := va_S.rf
  have hl := lv_entry ([.ref (aw_m ad 0), .int (nI k), .int b] : List Value) (n := 3) (Nat.le_of_ble_eq_true rfl)
  rw [lg_entry_eq]
  generalize (lg_sl ([.ref (aw_m ad 0), .int (nI k), .int b] : List Value) ++ List.replicate (3 - (lg_sl ([.ref (aw_m ad 0), .int (nI k), .int b] : List Value)).length) Slot.unset).toArray = ls at hl ⊢
  have hl : lv_has ls 3 [(0, .ref (aw_m ad 0)), (1, .int (nI k)), (2, .int b)] := hl
  refine lv_aload_n hx hb d_Mo_put_0 rfl (lv_at hl 0 rfl) ?_
  refine lv_iload_n hx hb d_Mo_put_1 rfl (lv_at hl 1 rfl) ?_
  refine lv_if_lt (tgt := 11) hx hb d_Mo_put_2 (by decide) (fun h => absurd h (show ¬ nI k < nI 0 from fun h9 => absurd ((nI_ltI (by omega) (by omega)).mp h9) (by omega))) (fun _ => ?_)
  refine lv_iload_n hx hb d_Mo_put_5 rfl (lv_at hl 1 rfl) ?_
  refine lv_bipush (v := nI 63) hx hb d_Mo_put_6 (by decide +kernel) ?_
  refine lv_icmp_le (tgt := 15) hx hb d_Mo_put_8 (by decide) (fun _ => ?_) (fun h => absurd (show nI k ≤ nI 63 from (nI_leI (by omega) (by omega)).mpr (by omega)) h)
  refine lv_iconst (v := nI 0) hx hb d_Mo_put_15 (by decide +kernel) ?_
  obtain ⟨_, _, _, he1⟩ := rd_M0 hSh
  refine va_calli (va_runV (As := [.int (nI 0)]) (rest := []) ⟨hx, hb, hml, hown, hG⟩ (k_Mo_refused0 l D g ad G M F N0) (aw_wV 1 hG gw_10_37 gw_10_35 gw_0_10 gw_10_36 gw_p_9 rfl rfl hd_Mo_refused ⟨Nat.le_of_ble_eq_true rfl, Nat.le_of_ble_eq_true rfl⟩) (aw_qV (va_recv hK hP rfl he1) hP hD hSh hU hS) rfl rfl hl.1 rfl (lv_room (Nat.le_of_ble_eq_true rfl)) d_Mo_put_16 ⟨Nat.le_of_ble_eq_true rfl, Nat.le_of_ble_eq_true rfl⟩) hS (fun _ _ h => h) (fun _ h => h) (fun x2 u8 t8 H locs ht _ hpx2 hB _ _ hS => ?_)
  obtain ⟨L, hP, hD, hSh⟩ := hB
  rw [ht] at hP
  clear ht
  subst hpx2
  refine lv_if_ne (tgt := 33) hx hb d_Mo_put_19 (by decide) (fun h => absurd (by decide +kernel) h) (fun _ => ?_)
  refine lv_aload_n hx hb d_Mo_put_22 rfl (lv_at hl 0 rfl) ?_
  obtain ⟨x4, o5, hw6, he3⟩ := rd_M0 hSh
  refine va_get (C := R_Mo) (T := T_Mo) (N := 19) (v := .ref (aw_m ad 1)) hx hb hG in_Mo hown hK hP 67 he3 rfl 1 (by decide) (hG _ gw_9_26) (fun _ h => h) rfl d_Mo_put_23 ?_
  refine lv_iload_n hx hb d_Mo_put_26 rfl (lv_at hl 1 rfl) ?_
  refine lv_iload_n hx hb d_Mo_put_27 rfl (lv_at hl 2 rfl) ?_
  refine lv_sipush (v := nI 255) hx hb d_Mo_put_28 (by decide +kernel) ?_
  refine lv_iand hx hb d_Mo_put_31 ?_
  obtain ⟨k7, hk7, ek7⟩ := pk_andE b (m := nI 255) 8 (by decide +kernel)
  refine aw_ti ek7 ?_
  obtain ⟨f9, he8⟩ := rd_M1 hSh
  refine aw_istI hx hb hK hP hD hS 68 0 he8 rfl (k := k) (by omega) (by decide) d_Mo_put_32 (wr_M1 hSh _) (fun H locs L hP hD hSh hS => ?_)
  exact W.vret hx hb hr (fun t ht hW => ⟨⟨(), rfl, trivial, aw_Hr ht hP hD hSh⟩, hS.F ht⟩) hS.2.2 d_Mo_put_33
abbrev ws_Mo_putX : List Cond := Cond.code y_Mo_put b_Mo_put 3 none :: aw_G
abbrev rm_Mo_putX : Room := { frames := 1, cells := 0, slots := 0, locals := 21 }
set_option maxHeartbeats 4000000 in
set_option maxRecDepth 100000 in
theorem k_Mo_putX (l : Launch) (D : va_G) (g : Nat → ClassId) (ad : Nat → Nat) (G M : Nat → Nat × Nat) (F : Int32) (N0 : Nat) (p0 : Int32) (b : Int32) (hc : p0 < 0 ∨ (¬ p0 < 0 ∧ nI 63 < p0)) : Met l y_Mo_put ws_Mo_putX rm_Mo_putX (va_Pc ([.ref (aw_m ad 0), .int p0, .int b] : List Value) (aw_B D g ad G M F N0)) (va_Qv (fun (_ : Unit) => True) (fun (_ : Unit) t => aw_H D g ad G M (nI 1) N0 t.heap) (aw_Z N0)) 0 0 (aw_Z N0) := by
  refine Met.ofW (cc := b_Mo_put) (maxL := 3) (ret := none) (by decide) rfl ?_
  intro p e s m args below meth c s₁ B hml hv
  obtain ⟨rfl, ⟨L, hP, hD, hSh⟩, hU⟩ := hv
  have hx := B.exec
  have hb := B.bytes
  have hr := B.returns
  have hG : ∀ w ∈ aw_G, w.before _ s = true := fun w h => atoms_spec (ws := ws_Mo_putX) B.pre w (List.mem_cons_of_mem _ h)
  have hown : s.vm.findClass "RuleCiphersModel" = some m.cls := findClass_of_methodNamed B.named
  have hlocks := B.notSynchronized
  have hE := hU.1
  have hK := hE.1
  have hN := hE.2.1
  have hS : va_S (aw_Z N0) s.heap s.heap [] := va_S.rf
  have hl := lv_entry ([.ref (aw_m ad 0), .int p0, .int b] : List Value) (n := 3) (Nat.le_of_ble_eq_true rfl)
  rw [lg_entry_eq]
  generalize (lg_sl ([.ref (aw_m ad 0), .int p0, .int b] : List Value) ++ List.replicate (3 - (lg_sl ([.ref (aw_m ad 0), .int p0, .int b] : List Value)).length) Slot.unset).toArray = ls at hl ⊢
  have hl : lv_has ls 3 [(0, .ref (aw_m ad 0)), (1, .int p0), (2, .int b)] := hl
  rcases hc with hc | hc
  · refine lv_aload_n hx hb d_Mo_put_0 rfl (lv_at hl 0 rfl) ?_
    refine lv_iload_n hx hb d_Mo_put_1 rfl (lv_at hl 1 rfl) ?_
    refine lv_if_lt (tgt := 11) hx hb d_Mo_put_2 (by decide) (fun _ => ?_) (fun h => absurd hc h)
    refine lv_iconst (v := nI 1) hx hb d_Mo_put_11 (by decide +kernel) ?_
    refine lv_goto (tgt := 16) hx hb d_Mo_put_12 (by decide) ?_
    obtain ⟨_, _, _, he1⟩ := rd_M0 hSh
    refine va_calli (va_runV (As := [.int (nI 1)]) (rest := []) ⟨hx, hb, hml, hown, hG⟩ (k_Mo_refused1 l D g ad G M F N0 1 (by omega)) (aw_wV 1 hG gw_10_37 gw_10_35 gw_0_10 gw_10_36 gw_p_9 rfl rfl hd_Mo_refused ⟨Nat.le_of_ble_eq_true rfl, Nat.le_of_ble_eq_true rfl⟩) (aw_qV (va_recv hK hP rfl he1) hP hD hSh hU hS) rfl rfl hl.1 rfl (lv_room (Nat.le_of_ble_eq_true rfl)) d_Mo_put_16 ⟨Nat.le_of_ble_eq_true rfl, Nat.le_of_ble_eq_true rfl⟩) hS (fun _ _ h => h) (fun _ h => h) (fun x2 u8 t8 H locs ht _ hpx2 hB _ _ hS => ?_)
    obtain ⟨L, hP, hD, hSh⟩ := hB
    rw [ht] at hP
    clear ht
    subst hpx2
    refine lv_if_ne (tgt := 33) hx hb d_Mo_put_19 (by decide) (fun _ => ?_) (fun h => absurd h (by decide +kernel))
    exact W.vret hx hb hr (fun t ht hW => ⟨⟨(), rfl, trivial, aw_Hr ht hP hD hSh⟩, hS.F ht⟩) hS.2.2 d_Mo_put_33
  · refine lv_aload_n hx hb d_Mo_put_0 rfl (lv_at hl 0 rfl) ?_
    refine lv_iload_n hx hb d_Mo_put_1 rfl (lv_at hl 1 rfl) ?_
    refine lv_if_lt (tgt := 11) hx hb d_Mo_put_2 (by decide) (fun h => absurd h hc.1) (fun _ => ?_)
    refine lv_iload_n hx hb d_Mo_put_5 rfl (lv_at hl 1 rfl) ?_
    refine lv_bipush (v := nI 63) hx hb d_Mo_put_6 (by decide +kernel) ?_
    refine lv_icmp_le (tgt := 15) hx hb d_Mo_put_8 (by decide) (fun h => absurd h (fun h9 => absurd hc.2 (Int32.not_lt.mpr h9))) (fun _ => ?_)
    refine lv_iconst (v := nI 1) hx hb d_Mo_put_11 (by decide +kernel) ?_
    refine lv_goto (tgt := 16) hx hb d_Mo_put_12 (by decide) ?_
    obtain ⟨_, _, _, he3⟩ := rd_M0 hSh
    refine va_calli (va_runV (As := [.int (nI 1)]) (rest := []) ⟨hx, hb, hml, hown, hG⟩ (k_Mo_refused1 l D g ad G M F N0 1 (by omega)) (aw_wV 1 hG gw_10_37 gw_10_35 gw_0_10 gw_10_36 gw_p_9 rfl rfl hd_Mo_refused ⟨Nat.le_of_ble_eq_true rfl, Nat.le_of_ble_eq_true rfl⟩) (aw_qV (va_recv hK hP rfl he3) hP hD hSh hU hS) rfl rfl hl.1 rfl (lv_room (Nat.le_of_ble_eq_true rfl)) d_Mo_put_16 ⟨Nat.le_of_ble_eq_true rfl, Nat.le_of_ble_eq_true rfl⟩) hS (fun _ _ h => h) (fun _ h => h) (fun x4 u8 t8 H locs ht _ hpx4 hB _ _ hS => ?_)
    obtain ⟨L, hP, hD, hSh⟩ := hB
    rw [ht] at hP
    clear ht
    subst hpx4
    refine lv_if_ne (tgt := 33) hx hb d_Mo_put_19 (by decide) (fun _ => ?_) (fun h => absurd h (by decide +kernel))
    exact W.vret hx hb hr (fun t ht hW => ⟨⟨(), rfl, trivial, aw_Hr ht hP hD hSh⟩, hS.F ht⟩) hS.2.2 d_Mo_put_33
abbrev ws_Mo_get1 : List Cond := Cond.code y_Mo_get b_Mo_get 2 (some .int) :: aw_G
abbrev rm_Mo_get1 : Room := { frames := 1, cells := 0, slots := 0, locals := 21 }
set_option maxHeartbeats 4000000 in
set_option maxRecDepth 100000 in
theorem k_Mo_get1 (l : Launch) (D : va_G) (g : Nat → ClassId) (ad : Nat → Nat) (G M : Nat → Nat × Nat) (F : Int32) (N0 : Nat) (k : Nat) (hk : k < 64) : Met l y_Mo_get ws_Mo_get1 rm_Mo_get1 (va_Pc ([.ref (aw_m ad 0), .int (nI k)] : List Value) (aw_B D g ad G M F N0)) (va_Qi (fun r (_ : Unit) => True) (fun (_ : Unit) t => ∃ F' : Int32, aw_H D g ad G M F' N0 t.heap) (aw_Z N0)) 0 0 (aw_Z N0) := by
  refine Met.ofW (cc := b_Mo_get) (maxL := 2) (ret := (some .int)) (by decide) rfl ?_
  intro p e s m args below meth c s₁ B hml hv
  obtain ⟨rfl, ⟨L, hP, hD, hSh⟩, hU⟩ := hv
  have hx := B.exec
  have hb := B.bytes
  have hr := B.returns
  have hG : ∀ w ∈ aw_G, w.before _ s = true := fun w h => atoms_spec (ws := ws_Mo_get1) B.pre w (List.mem_cons_of_mem _ h)
  have hown : s.vm.findClass "RuleCiphersModel" = some m.cls := findClass_of_methodNamed B.named
  have hlocks := B.notSynchronized
  have hE := hU.1
  have hK := hE.1
  have hN := hE.2.1
  have hS : va_S (aw_Z N0) s.heap s.heap [] := va_S.rf
  have hl := lv_entry ([.ref (aw_m ad 0), .int (nI k)] : List Value) (n := 2) (Nat.le_of_ble_eq_true rfl)
  rw [lg_entry_eq]
  generalize (lg_sl ([.ref (aw_m ad 0), .int (nI k)] : List Value) ++ List.replicate (2 - (lg_sl ([.ref (aw_m ad 0), .int (nI k)] : List Value)).length) Slot.unset).toArray = ls at hl ⊢
  have hl : lv_has ls 2 [(0, .ref (aw_m ad 0)), (1, .int (nI k))] := hl
  refine lv_aload_n hx hb d_Mo_get_0 rfl (lv_at hl 0 rfl) ?_
  refine lv_iload_n hx hb d_Mo_get_1 rfl (lv_at hl 1 rfl) ?_
  refine lv_if_lt (tgt := 11) hx hb d_Mo_get_2 (by decide) (fun h => absurd h (show ¬ nI k < nI 0 from fun h9 => absurd ((nI_ltI (by omega) (by omega)).mp h9) (by omega))) (fun _ => ?_)
  refine lv_iload_n hx hb d_Mo_get_5 rfl (lv_at hl 1 rfl) ?_
  refine lv_bipush (v := nI 63) hx hb d_Mo_get_6 (by decide +kernel) ?_
  refine lv_icmp_le (tgt := 15) hx hb d_Mo_get_8 (by decide) (fun _ => ?_) (fun h => absurd (show nI k ≤ nI 63 from (nI_leI (by omega) (by omega)).mpr (by omega)) h)
  refine lv_iconst (v := nI 0) hx hb d_Mo_get_15 (by decide +kernel) ?_
  obtain ⟨_, _, _, he1⟩ := rd_M0 hSh
  refine va_calli (va_runV (As := [.int (nI 0)]) (rest := []) ⟨hx, hb, hml, hown, hG⟩ (k_Mo_refused0 l D g ad G M F N0) (aw_wV 1 hG gw_10_37 gw_10_35 gw_0_10 gw_10_36 gw_p_9 rfl rfl hd_Mo_refused ⟨Nat.le_of_ble_eq_true rfl, Nat.le_of_ble_eq_true rfl⟩) (aw_qV (va_recv hK hP rfl he1) hP hD hSh hU hS) rfl rfl hl.1 rfl (lv_room (Nat.le_of_ble_eq_true rfl)) d_Mo_get_16 ⟨Nat.le_of_ble_eq_true rfl, Nat.le_of_ble_eq_true rfl⟩) hS (fun _ _ h => h) (fun _ h => h) (fun x2 u8 t8 H locs ht _ hpx2 hB _ _ hS => ?_)
  obtain ⟨L, hP, hD, hSh⟩ := hB
  rw [ht] at hP
  clear ht
  subst hpx2
  refine lv_if_eq (tgt := 26) hx hb d_Mo_get_19 (by decide) (fun _ => ?_) (fun h => absurd (by decide +kernel) h)
  refine lv_aload_n hx hb d_Mo_get_26 rfl (lv_at hl 0 rfl) ?_
  obtain ⟨x4, o5, hw6, he3⟩ := rd_M0 hSh
  refine va_get (C := R_Mo) (T := T_Mo) (N := 19) (v := .ref (aw_m ad 1)) hx hb hG in_Mo hown hK hP 67 he3 rfl 1 (by decide) (hG _ gw_9_26) (fun _ h => h) rfl d_Mo_get_27 ?_
  refine lv_iload_n hx hb d_Mo_get_30 rfl (lv_at hl 1 rfl) ?_
  obtain ⟨f8, he7⟩ := rd_M1 hSh
  refine aw_ild hx hb hK hP 68 0 he7 rfl (k := k) (by omega) (by decide) d_Mo_get_31 ?_
  refine lv_topi (fun x9 _ => ?_)
  exact W.iret hx hb hr (fun t ht hW => ⟨⟨_, (), rfl, trivial, ⟨_, aw_Hr ht hP hD hSh⟩⟩, hS.F ht⟩) hS.2.2 d_Mo_get_32
abbrev ws_Mo_getX : List Cond := Cond.code y_Mo_get b_Mo_get 2 (some .int) :: aw_G
abbrev rm_Mo_getX : Room := { frames := 1, cells := 0, slots := 0, locals := 21 }
set_option maxHeartbeats 4000000 in
set_option maxRecDepth 100000 in
theorem k_Mo_getX (l : Launch) (D : va_G) (g : Nat → ClassId) (ad : Nat → Nat) (G M : Nat → Nat × Nat) (F : Int32) (N0 : Nat) (p0 : Int32) (hc : p0 < 0 ∨ (¬ p0 < 0 ∧ nI 63 < p0)) : Met l y_Mo_get ws_Mo_getX rm_Mo_getX (va_Pc ([.ref (aw_m ad 0), .int p0] : List Value) (aw_B D g ad G M F N0)) (va_Qi (fun r (_ : Unit) => True) (fun (_ : Unit) t => ∃ F' : Int32, aw_H D g ad G M F' N0 t.heap) (aw_Z N0)) 0 0 (aw_Z N0) := by
  refine Met.ofW (cc := b_Mo_get) (maxL := 2) (ret := (some .int)) (by decide) rfl ?_
  intro p e s m args below meth c s₁ B hml hv
  obtain ⟨rfl, ⟨L, hP, hD, hSh⟩, hU⟩ := hv
  have hx := B.exec
  have hb := B.bytes
  have hr := B.returns
  have hG : ∀ w ∈ aw_G, w.before _ s = true := fun w h => atoms_spec (ws := ws_Mo_getX) B.pre w (List.mem_cons_of_mem _ h)
  have hown : s.vm.findClass "RuleCiphersModel" = some m.cls := findClass_of_methodNamed B.named
  have hlocks := B.notSynchronized
  have hE := hU.1
  have hK := hE.1
  have hN := hE.2.1
  have hS : va_S (aw_Z N0) s.heap s.heap [] := va_S.rf
  have hl := lv_entry ([.ref (aw_m ad 0), .int p0] : List Value) (n := 2) (Nat.le_of_ble_eq_true rfl)
  rw [lg_entry_eq]
  generalize (lg_sl ([.ref (aw_m ad 0), .int p0] : List Value) ++ List.replicate (2 - (lg_sl ([.ref (aw_m ad 0), .int p0] : List Value)).length) Slot.unset).toArray = ls at hl ⊢
  have hl : lv_has ls 2 [(0, .ref (aw_m ad 0)), (1, .int p0)] := hl
  rcases hc with hc | hc
  · refine lv_aload_n hx hb d_Mo_get_0 rfl (lv_at hl 0 rfl) ?_
    refine lv_iload_n hx hb d_Mo_get_1 rfl (lv_at hl 1 rfl) ?_
    refine lv_if_lt (tgt := 11) hx hb d_Mo_get_2 (by decide) (fun _ => ?_) (fun h => absurd hc h)
    refine lv_iconst (v := nI 1) hx hb d_Mo_get_11 (by decide +kernel) ?_
    refine lv_goto (tgt := 16) hx hb d_Mo_get_12 (by decide) ?_
    obtain ⟨_, _, _, he1⟩ := rd_M0 hSh
    refine va_calli (va_runV (As := [.int (nI 1)]) (rest := []) ⟨hx, hb, hml, hown, hG⟩ (k_Mo_refused1 l D g ad G M F N0 1 (by omega)) (aw_wV 1 hG gw_10_37 gw_10_35 gw_0_10 gw_10_36 gw_p_9 rfl rfl hd_Mo_refused ⟨Nat.le_of_ble_eq_true rfl, Nat.le_of_ble_eq_true rfl⟩) (aw_qV (va_recv hK hP rfl he1) hP hD hSh hU hS) rfl rfl hl.1 rfl (lv_room (Nat.le_of_ble_eq_true rfl)) d_Mo_get_16 ⟨Nat.le_of_ble_eq_true rfl, Nat.le_of_ble_eq_true rfl⟩) hS (fun _ _ h => h) (fun _ h => h) (fun x2 u8 t8 H locs ht _ hpx2 hB _ _ hS => ?_)
    obtain ⟨L, hP, hD, hSh⟩ := hB
    rw [ht] at hP
    clear ht
    subst hpx2
    refine lv_if_eq (tgt := 26) hx hb d_Mo_get_19 (by decide) (fun h => absurd h (by decide +kernel)) (fun _ => ?_)
    refine lv_iconst (v := nI 0) hx hb d_Mo_get_22 (by decide +kernel) ?_
    refine lv_goto (tgt := 32) hx hb d_Mo_get_23 (by decide) ?_
    exact W.iret hx hb hr (fun t ht hW => ⟨⟨_, (), rfl, trivial, ⟨_, aw_Hr ht hP hD hSh⟩⟩, hS.F ht⟩) hS.2.2 d_Mo_get_32
  · refine lv_aload_n hx hb d_Mo_get_0 rfl (lv_at hl 0 rfl) ?_
    refine lv_iload_n hx hb d_Mo_get_1 rfl (lv_at hl 1 rfl) ?_
    refine lv_if_lt (tgt := 11) hx hb d_Mo_get_2 (by decide) (fun h => absurd h hc.1) (fun _ => ?_)
    refine lv_iload_n hx hb d_Mo_get_5 rfl (lv_at hl 1 rfl) ?_
    refine lv_bipush (v := nI 63) hx hb d_Mo_get_6 (by decide +kernel) ?_
    refine lv_icmp_le (tgt := 15) hx hb d_Mo_get_8 (by decide) (fun h => absurd h (fun h9 => absurd hc.2 (Int32.not_lt.mpr h9))) (fun _ => ?_)
    refine lv_iconst (v := nI 1) hx hb d_Mo_get_11 (by decide +kernel) ?_
    refine lv_goto (tgt := 16) hx hb d_Mo_get_12 (by decide) ?_
    obtain ⟨_, _, _, he3⟩ := rd_M0 hSh
    refine va_calli (va_runV (As := [.int (nI 1)]) (rest := []) ⟨hx, hb, hml, hown, hG⟩ (k_Mo_refused1 l D g ad G M F N0 1 (by omega)) (aw_wV 1 hG gw_10_37 gw_10_35 gw_0_10 gw_10_36 gw_p_9 rfl rfl hd_Mo_refused ⟨Nat.le_of_ble_eq_true rfl, Nat.le_of_ble_eq_true rfl⟩) (aw_qV (va_recv hK hP rfl he3) hP hD hSh hU hS) rfl rfl hl.1 rfl (lv_room (Nat.le_of_ble_eq_true rfl)) d_Mo_get_16 ⟨Nat.le_of_ble_eq_true rfl, Nat.le_of_ble_eq_true rfl⟩) hS (fun _ _ h => h) (fun _ h => h) (fun x4 u8 t8 H locs ht _ hpx4 hB _ _ hS => ?_)
    obtain ⟨L, hP, hD, hSh⟩ := hB
    rw [ht] at hP
    clear ht
    subst hpx4
    refine lv_if_eq (tgt := 26) hx hb d_Mo_get_19 (by decide) (fun h => absurd h (by decide +kernel)) (fun _ => ?_)
    refine lv_iconst (v := nI 0) hx hb d_Mo_get_22 (by decide +kernel) ?_
    refine lv_goto (tgt := 32) hx hb d_Mo_get_23 (by decide) ?_
    exact W.iret hx hb hr (fun t ht hW => ⟨⟨_, (), rfl, trivial, ⟨_, aw_Hr ht hP hD hSh⟩⟩, hS.F ht⟩) hS.2.2 d_Mo_get_32
abbrev ws_Mo_seek1 : List Cond := Cond.code y_Mo_seek b_Mo_seek 4 none :: aw_G
abbrev rm_Mo_seek1 : Room := { frames := 1, cells := 0, slots := 0, locals := 21 }
set_option maxHeartbeats 4000000 in
set_option maxRecDepth 100000 in
theorem k_Mo_seek1 (l : Launch) (D : va_G) (g : Nat → ClassId) (ad : Nat → Nat) (G M : Nat → Nat × Nat) (F : Int32) (N0 : Nat) (j : Nat) (b : Int64) (hj : j < 4) (hs : (M j).1 = 3 ∧ (M j).2 = 4) : Met l y_Mo_seek ws_Mo_seek1 rm_Mo_seek1 (va_Pc ([.ref (aw_m ad 0), .int (nI j), .long b] : List Value) (aw_B D g ad G M F N0)) (va_Qv (fun (_ : Unit) => True) (fun (_ : Unit) t => aw_H D g ad G M (nI 0) N0 t.heap) (aw_Z N0)) 0 0 (aw_Z N0) := by
  refine Met.ofW (cc := b_Mo_seek) (maxL := 4) (ret := none) (by decide) rfl ?_
  intro p e s m args below meth c s₁ B hml hv
  obtain ⟨rfl, ⟨L, hP, hD, hSh⟩, hU⟩ := hv
  have hx := B.exec
  have hb := B.bytes
  have hr := B.returns
  have hG : ∀ w ∈ aw_G, w.before _ s = true := fun w h => atoms_spec (ws := ws_Mo_seek1) B.pre w (List.mem_cons_of_mem _ h)
  have hown : s.vm.findClass "RuleCiphersModel" = some m.cls := findClass_of_methodNamed B.named
  have hlocks := B.notSynchronized
  have hE := hU.1
  have hK := hE.1
  have hN := hE.2.1
  have hS : va_S (aw_Z N0) s.heap s.heap [] := va_S.rf
  have hl := lv_entry ([.ref (aw_m ad 0), .int (nI j), .long b] : List Value) (n := 4) (Nat.le_of_ble_eq_true rfl)
  rw [lg_entry_eq]
  generalize (lg_sl ([.ref (aw_m ad 0), .int (nI j), .long b] : List Value) ++ List.replicate (4 - (lg_sl ([.ref (aw_m ad 0), .int (nI j), .long b] : List Value)).length) Slot.unset).toArray = ls at hl ⊢
  have hl : lv_has ls 4 [(0, .ref (aw_m ad 0)), (1, .int (nI j)), (2, .long b)] := hl
  refine lv_aload_n hx hb d_Mo_seek_0 rfl (lv_at hl 0 rfl) ?_
  refine lv_iload_n hx hb d_Mo_seek_1 rfl (lv_at hl 1 rfl) ?_
  refine aw_ci ((va_runS (As := [.int (nI j)]) (rest := [.ref (aw_m ad 0)]) ⟨hx, hb, hml, hown, hG⟩ (k_Mo_isContext1 l j hj) (aw_wS 1 hG gw_10_34 gw_10_32 gw_0_10 gw_10_33 rfl rfl hd_Mo_isContext ⟨Nat.le_of_ble_eq_true rfl, Nat.le_of_ble_eq_true rfl⟩) aw_p0 rfl rfl hl.1 rfl (lv_room (Nat.le_of_ble_eq_true rfl)) d_Mo_seek_2 ⟨Nat.le_of_ble_eq_true rfl, Nat.le_of_ble_eq_true rfl⟩).run) (fun x1 hx1 => ?_)
  subst hx1
  refine lv_if_ne (tgt := 12) hx hb d_Mo_seek_5 (by decide) (fun _ => ?_) (fun h => absurd h (by decide +kernel))
  refine lv_aload_n hx hb d_Mo_seek_12 rfl (lv_at hl 0 rfl) ?_
  obtain ⟨x3, o4, hw5, he2⟩ := rd_M0 hSh
  refine va_get (C := R_Mo) (T := T_Mo) (N := 19) (v := .ref (aw_m ad 2)) hx hb hG in_Mo hown hK hP 67 he2 rfl 2 (by decide) (hG _ gw_9_27) (fun _ h => h) rfl d_Mo_seek_13 ?_
  refine lv_iload_n hx hb d_Mo_seek_16 rfl (lv_at hl 1 rfl) ?_
  obtain ⟨f7, hc8, he6⟩ := rd_M2 hSh
  refine aw_ild hx hb hK hP 69 0 he6 rfl (k := j) (by omega) (by decide) d_Mo_seek_17 ?_
  refine aw_ti (y := nI (M j).1) (hc8 _ (by omega)) ?_
  have hm := hSh.2.2.2.2.2 j (by omega)
  refine lv_iconst (v := nI 3) hx hb d_Mo_seek_18 (by decide +kernel) ?_
  refine lv_icmp_ne (tgt := 32) hx hb d_Mo_seek_19 (by decide) (fun h => absurd (show nI ((M j).1) = nI 3 from (nI_eq (by omega) (by omega)).mpr (by omega)) h) (fun _ => ?_)
  refine lv_aload_n hx hb d_Mo_seek_22 rfl (lv_at hl 0 rfl) ?_
  obtain ⟨x10, o11, hw12, he9⟩ := rd_M0 hSh
  refine va_get (C := R_Mo) (T := T_Mo) (N := 19) (v := .ref (aw_m ad 6)) hx hb hG in_Mo hown hK hP 67 he9 rfl 6 (by decide) (hG _ gw_9_31) (fun _ h => h) rfl d_Mo_seek_23 ?_
  refine lv_iload_n hx hb d_Mo_seek_26 rfl (lv_at hl 1 rfl) ?_
  obtain ⟨f14, hc15, he13⟩ := rd_M6 hSh
  refine aw_ild hx hb hK hP 73 0 he13 rfl (k := j) (by omega) (by decide) d_Mo_seek_27 ?_
  refine aw_ti (y := nI (M j).2) (hc15 _ (by omega)) ?_
  have hm := hSh.2.2.2.2.2 j (by omega)
  refine lv_iconst (v := nI 4) hx hb d_Mo_seek_28 (by decide +kernel) ?_
  refine lv_icmp_eq (tgt := 36) hx hb d_Mo_seek_29 (by decide) (fun _ => ?_) (fun h => absurd (show nI ((M j).2) = nI 4 from (nI_eq (by omega) (by omega)).mpr (by omega)) h)
  refine lv_iconst (v := nI 0) hx hb d_Mo_seek_36 (by decide +kernel) ?_
  obtain ⟨_, _, _, he16⟩ := rd_M0 hSh
  refine va_calli (va_runV (As := [.int (nI 0)]) (rest := []) ⟨hx, hb, hml, hown, hG⟩ (k_Mo_refused0 l D g ad G M F N0) (aw_wV 1 hG gw_10_37 gw_10_35 gw_0_10 gw_10_36 gw_p_9 rfl rfl hd_Mo_refused ⟨Nat.le_of_ble_eq_true rfl, Nat.le_of_ble_eq_true rfl⟩) (aw_qV (va_recv hK hP rfl he16) hP hD hSh hU hS) rfl rfl hl.1 rfl (lv_room (Nat.le_of_ble_eq_true rfl)) d_Mo_seek_37 ⟨Nat.le_of_ble_eq_true rfl, Nat.le_of_ble_eq_true rfl⟩) hS (fun _ _ h => h) (fun _ h => h) (fun x17 u8 t8 H locs ht _ hpx17 hB _ _ hS => ?_)
  obtain ⟨L, hP, hD, hSh⟩ := hB
  rw [ht] at hP
  clear ht
  subst hpx17
  refine lv_if_ne (tgt := 64) hx hb d_Mo_seek_40 (by decide) (fun h => absurd (by decide +kernel) h) (fun _ => ?_)
  refine lv_aload_n hx hb d_Mo_seek_43 rfl (lv_at hl 0 rfl) ?_
  obtain ⟨x19, o20, hw21, he18⟩ := rd_M0 hSh
  refine va_get (C := R_Mo) (T := T_Mo) (N := 19) (v := .ref (aw_m ad 8)) hx hb hG in_Mo hown hK hP 67 he18 rfl 8 (by decide) (hG _ gw_9_33) (fun _ h => h) rfl d_Mo_seek_44 ?_
  refine lv_iload_n hx hb d_Mo_seek_47 rfl (lv_at hl 1 rfl) ?_
  refine lv_aload_n hx hb d_Mo_seek_48 rfl (lv_at hl 0 rfl) ?_
  obtain ⟨x23, o24, hw25, he22⟩ := rd_M0 hSh
  refine va_get (C := R_Mo) (T := T_Mo) (N := 19) (v := .ref (aw_m ad 7)) hx hb hG in_Mo hown hK hP 67 he22 rfl 7 (by decide) (hG _ gw_9_32) (fun _ h => h) rfl d_Mo_seek_49 ?_
  refine lv_iload_n hx hb d_Mo_seek_52 rfl (lv_at hl 1 rfl) ?_
  obtain ⟨f27, he26⟩ := rd_M7 hSh
  refine aw_lld hx hb hK hP 74 1 he26 rfl (k := j) (by omega) (by decide) d_Mo_seek_53 ?_
  refine lv_topl (fun y28 _ => ?_)
  refine lv_lload_n hx hb d_Mo_seek_54 rfl (lv_at hl 2 rfl) ?_
  refine lv_ladd hx hb d_Mo_seek_55 ?_
  refine lv_topl (fun y29 _ => ?_)
  obtain ⟨f31, he30⟩ := rd_M8 hSh
  refine aw_lstI hx hb hK hP hD hS 75 1 he30 rfl (k := j) (by omega) (by decide) d_Mo_seek_56 (wr_M8 hSh _) (fun H locs L hP hD hSh hS => ?_)
  refine lv_aload_n hx hb d_Mo_seek_57 rfl (lv_at hl 0 rfl) ?_
  obtain ⟨x33, o34, hw35, he32⟩ := rd_M0 hSh
  refine va_get (C := R_Mo) (T := T_Mo) (N := 19) (v := .ref (aw_m ad 9)) hx hb hG in_Mo hown hK hP 67 he32 rfl 9 (by decide) (hG _ gw_9_34) (fun _ h => h) rfl d_Mo_seek_58 ?_
  refine lv_iload_n hx hb d_Mo_seek_61 rfl (lv_at hl 1 rfl) ?_
  refine lv_iconst (v := nI 0) hx hb d_Mo_seek_62 (by decide +kernel) ?_
  obtain ⟨f37, he36⟩ := rd_M9 hSh
  refine aw_istI hx hb hK hP hD hS 76 0 he36 rfl (k := j) (by omega) (by decide) d_Mo_seek_63 (wr_M9 hSh _) (fun H locs L hP hD hSh hS => ?_)
  exact W.vret hx hb hr (fun t ht hW => ⟨⟨(), rfl, trivial, aw_Hr ht hP hD hSh⟩, hS.F ht⟩) hS.2.2 d_Mo_seek_64
abbrev ws_Mo_seekXc : List Cond := Cond.code y_Mo_seek b_Mo_seek 4 none :: aw_G
abbrev rm_Mo_seekXc : Room := { frames := 1, cells := 0, slots := 0, locals := 21 }
set_option maxHeartbeats 4000000 in
set_option maxRecDepth 100000 in
theorem k_Mo_seekXc (l : Launch) (D : va_G) (g : Nat → ClassId) (ad : Nat → Nat) (G M : Nat → Nat × Nat) (F : Int32) (N0 : Nat) (c0 : Int32) (b : Int64) (hc : c0 < 0 ∨ (¬ c0 < 0 ∧ ¬ c0 < nI 4)) : Met l y_Mo_seek ws_Mo_seekXc rm_Mo_seekXc (va_Pc ([.ref (aw_m ad 0), .int c0, .long b] : List Value) (aw_B D g ad G M F N0)) (va_Qv (fun (_ : Unit) => True) (fun (_ : Unit) t => aw_H D g ad G M (nI 1) N0 t.heap) (aw_Z N0)) 0 0 (aw_Z N0) := by
  refine Met.ofW (cc := b_Mo_seek) (maxL := 4) (ret := none) (by decide) rfl ?_
  intro p e s m args below meth c s₁ B hml hv
  obtain ⟨rfl, ⟨L, hP, hD, hSh⟩, hU⟩ := hv
  have hx := B.exec
  have hb := B.bytes
  have hr := B.returns
  have hG : ∀ w ∈ aw_G, w.before _ s = true := fun w h => atoms_spec (ws := ws_Mo_seekXc) B.pre w (List.mem_cons_of_mem _ h)
  have hown : s.vm.findClass "RuleCiphersModel" = some m.cls := findClass_of_methodNamed B.named
  have hlocks := B.notSynchronized
  have hE := hU.1
  have hK := hE.1
  have hN := hE.2.1
  have hS : va_S (aw_Z N0) s.heap s.heap [] := va_S.rf
  have hl := lv_entry ([.ref (aw_m ad 0), .int c0, .long b] : List Value) (n := 4) (Nat.le_of_ble_eq_true rfl)
  rw [lg_entry_eq]
  generalize (lg_sl ([.ref (aw_m ad 0), .int c0, .long b] : List Value) ++ List.replicate (4 - (lg_sl ([.ref (aw_m ad 0), .int c0, .long b] : List Value)).length) Slot.unset).toArray = ls at hl ⊢
  have hl : lv_has ls 4 [(0, .ref (aw_m ad 0)), (1, .int c0), (2, .long b)] := hl
  refine lv_aload_n hx hb d_Mo_seek_0 rfl (lv_at hl 0 rfl) ?_
  refine lv_iload_n hx hb d_Mo_seek_1 rfl (lv_at hl 1 rfl) ?_
  refine aw_ci ((va_runS (As := [.int c0]) (rest := [.ref (aw_m ad 0)]) ⟨hx, hb, hml, hown, hG⟩ (k_Mo_isContext0 l c0 hc) (aw_wS 1 hG gw_10_34 gw_10_32 gw_0_10 gw_10_33 rfl rfl hd_Mo_isContext ⟨Nat.le_of_ble_eq_true rfl, Nat.le_of_ble_eq_true rfl⟩) aw_p0 rfl rfl hl.1 rfl (lv_room (Nat.le_of_ble_eq_true rfl)) d_Mo_seek_2 ⟨Nat.le_of_ble_eq_true rfl, Nat.le_of_ble_eq_true rfl⟩).run) (fun x1 hx1 => ?_)
  subst hx1
  refine lv_if_ne (tgt := 12) hx hb d_Mo_seek_5 (by decide) (fun h => absurd (by decide +kernel) h) (fun _ => ?_)
  refine lv_iconst (v := nI 1) hx hb d_Mo_seek_8 (by decide +kernel) ?_
  refine lv_goto (tgt := 37) hx hb d_Mo_seek_9 (by decide) ?_
  obtain ⟨_, _, _, he2⟩ := rd_M0 hSh
  refine va_calli (va_runV (As := [.int (nI 1)]) (rest := []) ⟨hx, hb, hml, hown, hG⟩ (k_Mo_refused1 l D g ad G M F N0 1 (by omega)) (aw_wV 1 hG gw_10_37 gw_10_35 gw_0_10 gw_10_36 gw_p_9 rfl rfl hd_Mo_refused ⟨Nat.le_of_ble_eq_true rfl, Nat.le_of_ble_eq_true rfl⟩) (aw_qV (va_recv hK hP rfl he2) hP hD hSh hU hS) rfl rfl hl.1 rfl (lv_room (Nat.le_of_ble_eq_true rfl)) d_Mo_seek_37 ⟨Nat.le_of_ble_eq_true rfl, Nat.le_of_ble_eq_true rfl⟩) hS (fun _ _ h => h) (fun _ h => h) (fun x3 u8 t8 H locs ht _ hpx3 hB _ _ hS => ?_)
  obtain ⟨L, hP, hD, hSh⟩ := hB
  rw [ht] at hP
  clear ht
  subst hpx3
  refine lv_if_ne (tgt := 64) hx hb d_Mo_seek_40 (by decide) (fun _ => ?_) (fun h => absurd h (by decide +kernel))
  exact W.vret hx hb hr (fun t ht hW => ⟨⟨(), rfl, trivial, aw_Hr ht hP hD hSh⟩, hS.F ht⟩) hS.2.2 d_Mo_seek_64
abbrev ws_Mo_seekXs : List Cond := Cond.code y_Mo_seek b_Mo_seek 4 none :: aw_G
abbrev rm_Mo_seekXs : Room := { frames := 1, cells := 0, slots := 0, locals := 21 }
set_option maxHeartbeats 4000000 in
set_option maxRecDepth 100000 in
theorem k_Mo_seekXs (l : Launch) (D : va_G) (g : Nat → ClassId) (ad : Nat → Nat) (G M : Nat → Nat × Nat) (F : Int32) (N0 : Nat) (j : Nat) (b : Int64) (hj : j < 4) (hs : (M j).1 ≤ 2 ∨ ((M j).1 = 3 ∧ (M j).2 ≠ 4)) : Met l y_Mo_seek ws_Mo_seekXs rm_Mo_seekXs (va_Pc ([.ref (aw_m ad 0), .int (nI j), .long b] : List Value) (aw_B D g ad G M F N0)) (va_Qv (fun (_ : Unit) => True) (fun (_ : Unit) t => aw_H D g ad G M (nI 2) N0 t.heap) (aw_Z N0)) 0 0 (aw_Z N0) := by
  refine Met.ofW (cc := b_Mo_seek) (maxL := 4) (ret := none) (by decide) rfl ?_
  intro p e s m args below meth c s₁ B hml hv
  obtain ⟨rfl, ⟨L, hP, hD, hSh⟩, hU⟩ := hv
  have hx := B.exec
  have hb := B.bytes
  have hr := B.returns
  have hG : ∀ w ∈ aw_G, w.before _ s = true := fun w h => atoms_spec (ws := ws_Mo_seekXs) B.pre w (List.mem_cons_of_mem _ h)
  have hown : s.vm.findClass "RuleCiphersModel" = some m.cls := findClass_of_methodNamed B.named
  have hlocks := B.notSynchronized
  have hE := hU.1
  have hK := hE.1
  have hN := hE.2.1
  have hS : va_S (aw_Z N0) s.heap s.heap [] := va_S.rf
  have hl := lv_entry ([.ref (aw_m ad 0), .int (nI j), .long b] : List Value) (n := 4) (Nat.le_of_ble_eq_true rfl)
  rw [lg_entry_eq]
  generalize (lg_sl ([.ref (aw_m ad 0), .int (nI j), .long b] : List Value) ++ List.replicate (4 - (lg_sl ([.ref (aw_m ad 0), .int (nI j), .long b] : List Value)).length) Slot.unset).toArray = ls at hl ⊢
  have hl : lv_has ls 4 [(0, .ref (aw_m ad 0)), (1, .int (nI j)), (2, .long b)] := hl
  rcases hs with hs | hs
  · refine lv_aload_n hx hb d_Mo_seek_0 rfl (lv_at hl 0 rfl) ?_
    refine lv_iload_n hx hb d_Mo_seek_1 rfl (lv_at hl 1 rfl) ?_
    refine aw_ci ((va_runS (As := [.int (nI j)]) (rest := [.ref (aw_m ad 0)]) ⟨hx, hb, hml, hown, hG⟩ (k_Mo_isContext1 l j hj) (aw_wS 1 hG gw_10_34 gw_10_32 gw_0_10 gw_10_33 rfl rfl hd_Mo_isContext ⟨Nat.le_of_ble_eq_true rfl, Nat.le_of_ble_eq_true rfl⟩) aw_p0 rfl rfl hl.1 rfl (lv_room (Nat.le_of_ble_eq_true rfl)) d_Mo_seek_2 ⟨Nat.le_of_ble_eq_true rfl, Nat.le_of_ble_eq_true rfl⟩).run) (fun x1 hx1 => ?_)
    subst hx1
    refine lv_if_ne (tgt := 12) hx hb d_Mo_seek_5 (by decide) (fun _ => ?_) (fun h => absurd h (by decide +kernel))
    refine lv_aload_n hx hb d_Mo_seek_12 rfl (lv_at hl 0 rfl) ?_
    obtain ⟨x3, o4, hw5, he2⟩ := rd_M0 hSh
    refine va_get (C := R_Mo) (T := T_Mo) (N := 19) (v := .ref (aw_m ad 2)) hx hb hG in_Mo hown hK hP 67 he2 rfl 2 (by decide) (hG _ gw_9_27) (fun _ h => h) rfl d_Mo_seek_13 ?_
    refine lv_iload_n hx hb d_Mo_seek_16 rfl (lv_at hl 1 rfl) ?_
    obtain ⟨f7, hc8, he6⟩ := rd_M2 hSh
    refine aw_ild hx hb hK hP 69 0 he6 rfl (k := j) (by omega) (by decide) d_Mo_seek_17 ?_
    refine aw_ti (y := nI (M j).1) (hc8 _ (by omega)) ?_
    have hm := hSh.2.2.2.2.2 j (by omega)
    refine lv_iconst (v := nI 3) hx hb d_Mo_seek_18 (by decide +kernel) ?_
    refine lv_icmp_ne (tgt := 32) hx hb d_Mo_seek_19 (by decide) (fun _ => ?_) (fun h => absurd h (show ¬ nI ((M j).1) = nI 3 from fun h9 => absurd ((nI_eq (by omega) (by omega)).mp h9) (by omega)))
    refine lv_iconst (v := nI 2) hx hb d_Mo_seek_32 (by decide +kernel) ?_
    refine lv_goto (tgt := 37) hx hb d_Mo_seek_33 (by decide) ?_
    obtain ⟨_, _, _, he9⟩ := rd_M0 hSh
    refine va_calli (va_runV (As := [.int (nI 2)]) (rest := []) ⟨hx, hb, hml, hown, hG⟩ (k_Mo_refused1 l D g ad G M F N0 2 (by omega)) (aw_wV 1 hG gw_10_37 gw_10_35 gw_0_10 gw_10_36 gw_p_9 rfl rfl hd_Mo_refused ⟨Nat.le_of_ble_eq_true rfl, Nat.le_of_ble_eq_true rfl⟩) (aw_qV (va_recv hK hP rfl he9) hP hD hSh hU hS) rfl rfl hl.1 rfl (lv_room (Nat.le_of_ble_eq_true rfl)) d_Mo_seek_37 ⟨Nat.le_of_ble_eq_true rfl, Nat.le_of_ble_eq_true rfl⟩) hS (fun _ _ h => h) (fun _ h => h) (fun x10 u8 t8 H locs ht _ hpx10 hB _ _ hS => ?_)
    obtain ⟨L, hP, hD, hSh⟩ := hB
    rw [ht] at hP
    clear ht
    subst hpx10
    refine lv_if_ne (tgt := 64) hx hb d_Mo_seek_40 (by decide) (fun _ => ?_) (fun h => absurd h (by decide +kernel))
    exact W.vret hx hb hr (fun t ht hW => ⟨⟨(), rfl, trivial, aw_Hr ht hP hD hSh⟩, hS.F ht⟩) hS.2.2 d_Mo_seek_64
  · refine lv_aload_n hx hb d_Mo_seek_0 rfl (lv_at hl 0 rfl) ?_
    refine lv_iload_n hx hb d_Mo_seek_1 rfl (lv_at hl 1 rfl) ?_
    refine aw_ci ((va_runS (As := [.int (nI j)]) (rest := [.ref (aw_m ad 0)]) ⟨hx, hb, hml, hown, hG⟩ (k_Mo_isContext1 l j hj) (aw_wS 1 hG gw_10_34 gw_10_32 gw_0_10 gw_10_33 rfl rfl hd_Mo_isContext ⟨Nat.le_of_ble_eq_true rfl, Nat.le_of_ble_eq_true rfl⟩) aw_p0 rfl rfl hl.1 rfl (lv_room (Nat.le_of_ble_eq_true rfl)) d_Mo_seek_2 ⟨Nat.le_of_ble_eq_true rfl, Nat.le_of_ble_eq_true rfl⟩).run) (fun x11 hx11 => ?_)
    subst hx11
    refine lv_if_ne (tgt := 12) hx hb d_Mo_seek_5 (by decide) (fun _ => ?_) (fun h => absurd h (by decide +kernel))
    refine lv_aload_n hx hb d_Mo_seek_12 rfl (lv_at hl 0 rfl) ?_
    obtain ⟨x13, o14, hw15, he12⟩ := rd_M0 hSh
    refine va_get (C := R_Mo) (T := T_Mo) (N := 19) (v := .ref (aw_m ad 2)) hx hb hG in_Mo hown hK hP 67 he12 rfl 2 (by decide) (hG _ gw_9_27) (fun _ h => h) rfl d_Mo_seek_13 ?_
    refine lv_iload_n hx hb d_Mo_seek_16 rfl (lv_at hl 1 rfl) ?_
    obtain ⟨f17, hc18, he16⟩ := rd_M2 hSh
    refine aw_ild hx hb hK hP 69 0 he16 rfl (k := j) (by omega) (by decide) d_Mo_seek_17 ?_
    refine aw_ti (y := nI (M j).1) (hc18 _ (by omega)) ?_
    have hm := hSh.2.2.2.2.2 j (by omega)
    refine lv_iconst (v := nI 3) hx hb d_Mo_seek_18 (by decide +kernel) ?_
    refine lv_icmp_ne (tgt := 32) hx hb d_Mo_seek_19 (by decide) (fun h => absurd (show nI ((M j).1) = nI 3 from (nI_eq (by omega) (by omega)).mpr (by omega)) h) (fun _ => ?_)
    refine lv_aload_n hx hb d_Mo_seek_22 rfl (lv_at hl 0 rfl) ?_
    obtain ⟨x20, o21, hw22, he19⟩ := rd_M0 hSh
    refine va_get (C := R_Mo) (T := T_Mo) (N := 19) (v := .ref (aw_m ad 6)) hx hb hG in_Mo hown hK hP 67 he19 rfl 6 (by decide) (hG _ gw_9_31) (fun _ h => h) rfl d_Mo_seek_23 ?_
    refine lv_iload_n hx hb d_Mo_seek_26 rfl (lv_at hl 1 rfl) ?_
    obtain ⟨f24, hc25, he23⟩ := rd_M6 hSh
    refine aw_ild hx hb hK hP 73 0 he23 rfl (k := j) (by omega) (by decide) d_Mo_seek_27 ?_
    refine aw_ti (y := nI (M j).2) (hc25 _ (by omega)) ?_
    have hm := hSh.2.2.2.2.2 j (by omega)
    refine lv_iconst (v := nI 4) hx hb d_Mo_seek_28 (by decide +kernel) ?_
    refine lv_icmp_eq (tgt := 36) hx hb d_Mo_seek_29 (by decide) (fun h => absurd h (show ¬ nI ((M j).2) = nI 4 from fun h9 => absurd ((nI_eq (by omega) (by omega)).mp h9) (by omega))) (fun _ => ?_)
    refine lv_iconst (v := nI 2) hx hb d_Mo_seek_32 (by decide +kernel) ?_
    refine lv_goto (tgt := 37) hx hb d_Mo_seek_33 (by decide) ?_
    obtain ⟨_, _, _, he26⟩ := rd_M0 hSh
    refine va_calli (va_runV (As := [.int (nI 2)]) (rest := []) ⟨hx, hb, hml, hown, hG⟩ (k_Mo_refused1 l D g ad G M F N0 2 (by omega)) (aw_wV 1 hG gw_10_37 gw_10_35 gw_0_10 gw_10_36 gw_p_9 rfl rfl hd_Mo_refused ⟨Nat.le_of_ble_eq_true rfl, Nat.le_of_ble_eq_true rfl⟩) (aw_qV (va_recv hK hP rfl he26) hP hD hSh hU hS) rfl rfl hl.1 rfl (lv_room (Nat.le_of_ble_eq_true rfl)) d_Mo_seek_37 ⟨Nat.le_of_ble_eq_true rfl, Nat.le_of_ble_eq_true rfl⟩) hS (fun _ _ h => h) (fun _ h => h) (fun x27 u8 t8 H locs ht _ hpx27 hB _ _ hS => ?_)
    obtain ⟨L, hP, hD, hSh⟩ := hB
    rw [ht] at hP
    clear ht
    subst hpx27
    refine lv_if_ne (tgt := 64) hx hb d_Mo_seek_40 (by decide) (fun _ => ?_) (fun h => absurd h (by decide +kernel))
    exact W.vret hx hb hr (fun t ht hW => ⟨⟨(), rfl, trivial, aw_Hr ht hP hD hSh⟩, hS.F ht⟩) hS.2.2 d_Mo_seek_64
