abbrev ws_Mo_feedXc : List Cond := Cond.code y_Mo_feed b_Mo_feed 7 (some .int) :: aw_G
abbrev rm_Mo_feedXc : Room := { frames := 5, cells := 0, slots := 0, locals := 130 }
set_option maxHeartbeats 4000000 in
set_option maxRecDepth 100000 in
theorem k_Mo_feedXc (l : Launch) (D : va_G) (g : Nat → ClassId) (ad : Nat → Nat) (G M : Nat → Nat × Nat) (F : Int32) (N0 : Nat) (c0 : Int32) (bk : Int32) (fr : Int32) (m0 : Int32) (hc : c0 < 0 ∨ (¬ c0 < 0 ∧ ¬ c0 < nI 4)) : Met l y_Mo_feed ws_Mo_feedXc rm_Mo_feedXc (va_Pc ([.ref (aw_m ad 0), .int c0, .int bk, .int fr, .int m0] : List Value) (aw_B D g ad G M F N0)) (va_Qi (fun r (_ : Unit) => True) (fun (_ : Unit) t => ∃ F' : Int32, aw_H D g ad G M F' N0 t.heap) (aw_Z N0)) 0 0 (aw_Z N0) := by
  refine Met.ofW (cc := b_Mo_feed) (maxL := 7) (ret := (some .int)) (by decide) rfl ?_
  intro p e s m args below meth c s₁ B hml hv
  obtain ⟨rfl, ⟨L, hP, hD, hSh⟩, hU⟩ := hv
  have hx := B.exec
  have hb := B.bytes
  have hr := B.returns
  have hG : ∀ w ∈ aw_G, w.before _ s = true := fun w h => atoms_spec (ws := ws_Mo_feedXc) B.pre w (List.mem_cons_of_mem _ h)
  have hown : s.vm.findClass "RuleCiphersModel" = some m.cls := findClass_of_methodNamed B.named
  have hlocks := B.notSynchronized
  have hE := hU.1
  have hK := hE.1
  have hN := hE.2.1
  have hS : va_S (aw_Z N0) s.heap s.heap [] := va_S.rf
  have hl := lv_entry ([.ref (aw_m ad 0), .int c0, .int bk, .int fr, .int m0] : List Value) (n := 7) (Nat.le_of_ble_eq_true rfl)
  rw [lg_entry_eq]
  generalize (lg_sl ([.ref (aw_m ad 0), .int c0, .int bk, .int fr, .int m0] : List Value) ++ List.replicate (7 - (lg_sl ([.ref (aw_m ad 0), .int c0, .int bk, .int fr, .int m0] : List Value)).length) Slot.unset).toArray = ls at hl ⊢
  have hl : lv_has ls 7 [(0, .ref (aw_m ad 0)), (1, .int c0), (2, .int bk), (3, .int fr), (4, .int m0)] := hl
  refine lv_iload_n hx hb d_Mo_feed_0 rfl (lv_at hl 1 rfl) ?_
  refine aw_ci ((va_runS (As := [.int c0]) (rest := []) ⟨hx, hb, hml, hown, hG⟩ (k_Mo_isContext0 l c0 hc) (aw_wS 1 hG gw_10_34 gw_10_32 gw_0_10 gw_10_33 rfl rfl hd_Mo_isContext ⟨Nat.le_of_ble_eq_true rfl, Nat.le_of_ble_eq_true rfl⟩) aw_p0 rfl rfl hl.1 rfl (lv_room (Nat.le_of_ble_eq_true rfl)) d_Mo_feed_1 ⟨Nat.le_of_ble_eq_true rfl, Nat.le_of_ble_eq_true rfl⟩).run) (fun x1 hx1 => ?_)
  subst hx1
  refine lv_if_eq (tgt := 20) hx hb d_Mo_feed_4 (by decide) (fun _ => ?_) (fun h => absurd (by decide +kernel) h)
  refine lv_iconst (v := nI 0) hx hb d_Mo_feed_20 (by decide +kernel) ?_
  refine lv_istore hx hb d_Mo_feed_21 hl (by decide) rfl (fun ls hl => ?_)
  have hl : lv_has ls 7 [(5, .int (nI 0)), (0, .ref (aw_m ad 0)), (1, .int c0), (2, .int bk), (3, .int fr), (4, .int m0)] := hl
  refine lv_aload_n hx hb d_Mo_feed_23 rfl (lv_at hl 1 rfl) ?_
  refine lv_iload hx hb d_Mo_feed_24 (lv_at hl 0 rfl) ?_
  refine lv_if_ne (tgt := 33) hx hb d_Mo_feed_26 (by decide) (fun h => absurd (by decide +kernel) h) (fun _ => ?_)
  refine lv_iconst (v := nI 1) hx hb d_Mo_feed_29 (by decide +kernel) ?_
  refine lv_goto (tgt := 80) hx hb d_Mo_feed_30 (by decide) ?_
  obtain ⟨_, _, _, he2⟩ := rd_M0 hSh
  refine va_calli (va_runV (As := [.int (nI 1)]) (rest := []) ⟨hx, hb, hml, hown, hG⟩ (k_Mo_refused1 l D g ad G M F N0 1 (by omega)) (aw_wV 1 hG gw_10_37 gw_10_35 gw_0_10 gw_10_36 gw_p_9 rfl rfl hd_Mo_refused ⟨Nat.le_of_ble_eq_true rfl, Nat.le_of_ble_eq_true rfl⟩) (aw_qV (va_recv hK hP rfl he2) hP hD hSh hU hS) rfl rfl hl.1 rfl (lv_room (Nat.le_of_ble_eq_true rfl)) d_Mo_feed_80 ⟨Nat.le_of_ble_eq_true rfl, Nat.le_of_ble_eq_true rfl⟩) hS (fun _ _ h => h) (fun _ h => h) (fun x3 u8 t8 H locs ht _ hpx3 hB _ _ hS => ?_)
  obtain ⟨L, hP, hD, hSh⟩ := hB
  rw [ht] at hP
  clear ht
  subst hpx3
  refine lv_if_eq (tgt := 88) hx hb d_Mo_feed_83 (by decide) (fun h => absurd h (by decide +kernel)) (fun _ => ?_)
  refine lv_iconst (v := nI 0) hx hb d_Mo_feed_86 (by decide +kernel) ?_
  exact W.iret hx hb hr (fun t ht hW => ⟨⟨_, (), rfl, trivial, ⟨_, aw_Hr ht hP hD hSh⟩⟩, hS.F ht⟩) hS.2.2 d_Mo_feed_87
abbrev ws_Mo_feedXb : List Cond := Cond.code y_Mo_feed b_Mo_feed 7 (some .int) :: aw_G
abbrev rm_Mo_feedXb : Room := { frames := 5, cells := 0, slots := 0, locals := 130 }
set_option maxHeartbeats 4000000 in
set_option maxRecDepth 100000 in
theorem k_Mo_feedXb (l : Launch) (D : va_G) (g : Nat → ClassId) (ad : Nat → Nat) (G M : Nat → Nat × Nat) (F : Int32) (N0 : Nat) (j : Nat) (bk : Int32) (fr : Int32) (m0 : Int32) (hj : j < 4) (hi : fr < 0 ∨ (¬ fr < 0 ∧ m0 < 0) ∨ (¬ fr < 0 ∧ ¬ m0 < 0 ∧ nI 64 < fr) ∨ (¬ fr < 0 ∧ ¬ m0 < 0 ∧ ¬ nI 64 < fr ∧ nI 64 - fr < m0)) : Met l y_Mo_feed ws_Mo_feedXb rm_Mo_feedXb (va_Pc ([.ref (aw_m ad 0), .int (nI j), .int bk, .int fr, .int m0] : List Value) (aw_B D g ad G M F N0)) (va_Qi (fun r (_ : Unit) => True) (fun (_ : Unit) t => ∃ F' : Int32, aw_H D g ad G M F' N0 t.heap) (aw_Z N0)) 0 0 (aw_Z N0) := by
  refine Met.ofW (cc := b_Mo_feed) (maxL := 7) (ret := (some .int)) (by decide) rfl ?_
  intro p e s m args below meth c s₁ B hml hv
  obtain ⟨rfl, ⟨L, hP, hD, hSh⟩, hU⟩ := hv
  have hx := B.exec
  have hb := B.bytes
  have hr := B.returns
  have hG : ∀ w ∈ aw_G, w.before _ s = true := fun w h => atoms_spec (ws := ws_Mo_feedXb) B.pre w (List.mem_cons_of_mem _ h)
  have hown : s.vm.findClass "RuleCiphersModel" = some m.cls := findClass_of_methodNamed B.named
  have hlocks := B.notSynchronized
  have hE := hU.1
  have hK := hE.1
  have hN := hE.2.1
  have hS : va_S (aw_Z N0) s.heap s.heap [] := va_S.rf
  have hl := lv_entry ([.ref (aw_m ad 0), .int (nI j), .int bk, .int fr, .int m0] : List Value) (n := 7) (Nat.le_of_ble_eq_true rfl)
  rw [lg_entry_eq]
  generalize (lg_sl ([.ref (aw_m ad 0), .int (nI j), .int bk, .int fr, .int m0] : List Value) ++ List.replicate (7 - (lg_sl ([.ref (aw_m ad 0), .int (nI j), .int bk, .int fr, .int m0] : List Value)).length) Slot.unset).toArray = ls at hl ⊢
  have hl : lv_has ls 7 [(0, .ref (aw_m ad 0)), (1, .int (nI j)), (2, .int bk), (3, .int fr), (4, .int m0)] := hl
  refine lv_iload_n hx hb d_Mo_feed_0 rfl (lv_at hl 1 rfl) ?_
  refine aw_ci ((va_runS (As := [.int (nI j)]) (rest := []) ⟨hx, hb, hml, hown, hG⟩ (k_Mo_isContext1 l j hj) (aw_wS 1 hG gw_10_34 gw_10_32 gw_0_10 gw_10_33 rfl rfl hd_Mo_isContext ⟨Nat.le_of_ble_eq_true rfl, Nat.le_of_ble_eq_true rfl⟩) aw_p0 rfl rfl hl.1 rfl (lv_room (Nat.le_of_ble_eq_true rfl)) d_Mo_feed_1 ⟨Nat.le_of_ble_eq_true rfl, Nat.le_of_ble_eq_true rfl⟩).run) (fun x1 hx1 => ?_)
  subst hx1
  refine lv_if_eq (tgt := 20) hx hb d_Mo_feed_4 (by decide) (fun h => absurd h (by decide +kernel)) (fun _ => ?_)
  refine lv_iload_n hx hb d_Mo_feed_7 rfl (lv_at hl 3 rfl) ?_
  refine lv_iload hx hb d_Mo_feed_8 (lv_at hl 4 rfl) ?_
  refine aw_ci ((va_runS (As := [.int fr, .int m0]) (rest := []) ⟨hx, hb, hml, hown, hG⟩ (k_Mo_isPart0 l fr m0 hi) (aw_wS 2 hG gw_12_29 gw_12_27 gw_0_10 gw_12_28 rfl rfl hd_Mo_isPart ⟨Nat.le_of_ble_eq_true rfl, Nat.le_of_ble_eq_true rfl⟩) aw_p0 rfl rfl hl.1 rfl (lv_room (Nat.le_of_ble_eq_true rfl)) d_Mo_feed_10 ⟨Nat.le_of_ble_eq_true rfl, Nat.le_of_ble_eq_true rfl⟩).run) (fun x2 hx2 => ?_)
  subst hx2
  refine lv_if_eq (tgt := 20) hx hb d_Mo_feed_13 (by decide) (fun _ => ?_) (fun h => absurd (by decide +kernel) h)
  refine lv_iconst (v := nI 0) hx hb d_Mo_feed_20 (by decide +kernel) ?_
  refine lv_istore hx hb d_Mo_feed_21 hl (by decide) rfl (fun ls hl => ?_)
  have hl : lv_has ls 7 [(5, .int (nI 0)), (0, .ref (aw_m ad 0)), (1, .int (nI j)), (2, .int bk), (3, .int fr), (4, .int m0)] := hl
  refine lv_aload_n hx hb d_Mo_feed_23 rfl (lv_at hl 1 rfl) ?_
  refine lv_iload hx hb d_Mo_feed_24 (lv_at hl 0 rfl) ?_
  refine lv_if_ne (tgt := 33) hx hb d_Mo_feed_26 (by decide) (fun h => absurd (by decide +kernel) h) (fun _ => ?_)
  refine lv_iconst (v := nI 1) hx hb d_Mo_feed_29 (by decide +kernel) ?_
  refine lv_goto (tgt := 80) hx hb d_Mo_feed_30 (by decide) ?_
  obtain ⟨_, _, _, he3⟩ := rd_M0 hSh
  refine va_calli (va_runV (As := [.int (nI 1)]) (rest := []) ⟨hx, hb, hml, hown, hG⟩ (k_Mo_refused1 l D g ad G M F N0 1 (by omega)) (aw_wV 1 hG gw_10_37 gw_10_35 gw_0_10 gw_10_36 gw_p_9 rfl rfl hd_Mo_refused ⟨Nat.le_of_ble_eq_true rfl, Nat.le_of_ble_eq_true rfl⟩) (aw_qV (va_recv hK hP rfl he3) hP hD hSh hU hS) rfl rfl hl.1 rfl (lv_room (Nat.le_of_ble_eq_true rfl)) d_Mo_feed_80 ⟨Nat.le_of_ble_eq_true rfl, Nat.le_of_ble_eq_true rfl⟩) hS (fun _ _ h => h) (fun _ h => h) (fun x4 u8 t8 H locs ht _ hpx4 hB _ _ hS => ?_)
  obtain ⟨L, hP, hD, hSh⟩ := hB
  rw [ht] at hP
  clear ht
  subst hpx4
  refine lv_if_eq (tgt := 88) hx hb d_Mo_feed_83 (by decide) (fun h => absurd h (by decide +kernel)) (fun _ => ?_)
  refine lv_iconst (v := nI 0) hx hb d_Mo_feed_86 (by decide +kernel) ?_
  exact W.iret hx hb hr (fun t ht hW => ⟨⟨_, (), rfl, trivial, ⟨_, aw_Hr ht hP hD hSh⟩⟩, hS.F ht⟩) hS.2.2 d_Mo_feed_87
abbrev ws_Mo_feedXs : List Cond := Cond.code y_Mo_feed b_Mo_feed 7 (some .int) :: aw_G
abbrev rm_Mo_feedXs : Room := { frames := 5, cells := 0, slots := 0, locals := 130 }
set_option maxHeartbeats 4000000 in
set_option maxRecDepth 100000 in
theorem k_Mo_feedXs (l : Launch) (D : va_G) (g : Nat → ClassId) (ad : Nat → Nat) (G M : Nat → Nat × Nat) (F : Int32) (N0 : Nat) (j : Nat) (bk : Int32) (k : Nat) (mm : Nat) (hj : j < 4) (hk : k + mm ≤ 64) (hs : (M j).1 ≤ 2 ∨ ((M j).1 = 3 ∧ (M j).2 = 5)) : Met l y_Mo_feed ws_Mo_feedXs rm_Mo_feedXs (va_Pc ([.ref (aw_m ad 0), .int (nI j), .int bk, .int (nI k), .int (nI mm)] : List Value) (aw_B D g ad G M F N0)) (va_Qi (fun r (_ : Unit) => True) (fun (_ : Unit) t => ∃ F' : Int32, aw_H D g ad G M F' N0 t.heap) (aw_Z N0)) 0 0 (aw_Z N0) := by
  refine Met.ofW (cc := b_Mo_feed) (maxL := 7) (ret := (some .int)) (by decide) rfl ?_
  intro p e s m args below meth c s₁ B hml hv
  obtain ⟨rfl, ⟨L, hP, hD, hSh⟩, hU⟩ := hv
  have hx := B.exec
  have hb := B.bytes
  have hr := B.returns
  have hG : ∀ w ∈ aw_G, w.before _ s = true := fun w h => atoms_spec (ws := ws_Mo_feedXs) B.pre w (List.mem_cons_of_mem _ h)
  have hown : s.vm.findClass "RuleCiphersModel" = some m.cls := findClass_of_methodNamed B.named
  have hlocks := B.notSynchronized
  have hE := hU.1
  have hK := hE.1
  have hN := hE.2.1
  have hS : va_S (aw_Z N0) s.heap s.heap [] := va_S.rf
  have hl := lv_entry ([.ref (aw_m ad 0), .int (nI j), .int bk, .int (nI k), .int (nI mm)] : List Value) (n := 7) (Nat.le_of_ble_eq_true rfl)
  rw [lg_entry_eq]
  generalize (lg_sl ([.ref (aw_m ad 0), .int (nI j), .int bk, .int (nI k), .int (nI mm)] : List Value) ++ List.replicate (7 - (lg_sl ([.ref (aw_m ad 0), .int (nI j), .int bk, .int (nI k), .int (nI mm)] : List Value)).length) Slot.unset).toArray = ls at hl ⊢
  have hl : lv_has ls 7 [(0, .ref (aw_m ad 0)), (1, .int (nI j)), (2, .int bk), (3, .int (nI k)), (4, .int (nI mm))] := hl
  rcases hs with hs | hs
  · refine lv_iload_n hx hb d_Mo_feed_0 rfl (lv_at hl 1 rfl) ?_
    refine aw_ci ((va_runS (As := [.int (nI j)]) (rest := []) ⟨hx, hb, hml, hown, hG⟩ (k_Mo_isContext1 l j hj) (aw_wS 1 hG gw_10_34 gw_10_32 gw_0_10 gw_10_33 rfl rfl hd_Mo_isContext ⟨Nat.le_of_ble_eq_true rfl, Nat.le_of_ble_eq_true rfl⟩) aw_p0 rfl rfl hl.1 rfl (lv_room (Nat.le_of_ble_eq_true rfl)) d_Mo_feed_1 ⟨Nat.le_of_ble_eq_true rfl, Nat.le_of_ble_eq_true rfl⟩).run) (fun x1 hx1 => ?_)
    subst hx1
    refine lv_if_eq (tgt := 20) hx hb d_Mo_feed_4 (by decide) (fun h => absurd h (by decide +kernel)) (fun _ => ?_)
    refine lv_iload_n hx hb d_Mo_feed_7 rfl (lv_at hl 3 rfl) ?_
    refine lv_iload hx hb d_Mo_feed_8 (lv_at hl 4 rfl) ?_
    refine aw_ci ((va_runS (As := [.int (nI k), .int (nI mm)]) (rest := []) ⟨hx, hb, hml, hown, hG⟩ (k_Mo_isPart1 l k mm hk) (aw_wS 2 hG gw_12_29 gw_12_27 gw_0_10 gw_12_28 rfl rfl hd_Mo_isPart ⟨Nat.le_of_ble_eq_true rfl, Nat.le_of_ble_eq_true rfl⟩) aw_p0 rfl rfl hl.1 rfl (lv_room (Nat.le_of_ble_eq_true rfl)) d_Mo_feed_10 ⟨Nat.le_of_ble_eq_true rfl, Nat.le_of_ble_eq_true rfl⟩).run) (fun x2 hx2 => ?_)
    subst hx2
    refine lv_if_eq (tgt := 20) hx hb d_Mo_feed_13 (by decide) (fun h => absurd h (by decide +kernel)) (fun _ => ?_)
    refine lv_iconst (v := nI 1) hx hb d_Mo_feed_16 (by decide +kernel) ?_
    refine lv_goto (tgt := 21) hx hb d_Mo_feed_17 (by decide) ?_
    refine lv_istore hx hb d_Mo_feed_21 hl (by decide) rfl (fun ls hl => ?_)
    have hl : lv_has ls 7 [(5, .int (nI 1)), (0, .ref (aw_m ad 0)), (1, .int (nI j)), (2, .int bk), (3, .int (nI k)), (4, .int (nI mm))] := hl
    refine lv_aload_n hx hb d_Mo_feed_23 rfl (lv_at hl 1 rfl) ?_
    refine lv_iload hx hb d_Mo_feed_24 (lv_at hl 0 rfl) ?_
    refine lv_if_ne (tgt := 33) hx hb d_Mo_feed_26 (by decide) (fun _ => ?_) (fun h => absurd h (by decide +kernel))
    refine lv_aload_n hx hb d_Mo_feed_33 rfl (lv_at hl 1 rfl) ?_
    obtain ⟨x4, o5, hw6, he3⟩ := rd_M0 hSh
    refine va_get (C := R_Mo) (T := T_Mo) (N := 19) (v := .ref (aw_m ad 2)) hx hb hG in_Mo hown hK hP 67 he3 rfl 2 (by decide) (hG _ gw_9_27) (fun _ h => h) rfl d_Mo_feed_34 ?_
    refine lv_iload_n hx hb d_Mo_feed_37 rfl (lv_at hl 2 rfl) ?_
    obtain ⟨f8, hc9, he7⟩ := rd_M2 hSh
    refine aw_ild hx hb hK hP 69 0 he7 rfl (k := j) (by omega) (by decide) d_Mo_feed_38 ?_
    refine aw_ti (y := nI (M j).1) (hc9 _ (by omega)) ?_
    have hm := hSh.2.2.2.2.2 j (by omega)
    refine lv_iconst (v := nI 3) hx hb d_Mo_feed_39 (by decide +kernel) ?_
    refine lv_icmp_ne (tgt := 53) hx hb d_Mo_feed_40 (by decide) (fun _ => ?_) (fun h => absurd h (show ¬ nI ((M j).1) = nI 3 from fun h9 => absurd ((nI_eq (by omega) (by omega)).mp h9) (by omega)))
    refine lv_iconst (v := nI 2) hx hb d_Mo_feed_53 (by decide +kernel) ?_
    refine lv_goto (tgt := 80) hx hb d_Mo_feed_54 (by decide) ?_
    obtain ⟨_, _, _, he10⟩ := rd_M0 hSh
    refine va_calli (va_runV (As := [.int (nI 2)]) (rest := []) ⟨hx, hb, hml, hown, hG⟩ (k_Mo_refused1 l D g ad G M F N0 2 (by omega)) (aw_wV 1 hG gw_10_37 gw_10_35 gw_0_10 gw_10_36 gw_p_9 rfl rfl hd_Mo_refused ⟨Nat.le_of_ble_eq_true rfl, Nat.le_of_ble_eq_true rfl⟩) (aw_qV (va_recv hK hP rfl he10) hP hD hSh hU hS) rfl rfl hl.1 rfl (lv_room (Nat.le_of_ble_eq_true rfl)) d_Mo_feed_80 ⟨Nat.le_of_ble_eq_true rfl, Nat.le_of_ble_eq_true rfl⟩) hS (fun _ _ h => h) (fun _ h => h) (fun x11 u8 t8 H locs ht _ hpx11 hB _ _ hS => ?_)
    obtain ⟨L, hP, hD, hSh⟩ := hB
    rw [ht] at hP
    clear ht
    subst hpx11
    refine lv_if_eq (tgt := 88) hx hb d_Mo_feed_83 (by decide) (fun h => absurd h (by decide +kernel)) (fun _ => ?_)
    refine lv_iconst (v := nI 0) hx hb d_Mo_feed_86 (by decide +kernel) ?_
    exact W.iret hx hb hr (fun t ht hW => ⟨⟨_, (), rfl, trivial, ⟨_, aw_Hr ht hP hD hSh⟩⟩, hS.F ht⟩) hS.2.2 d_Mo_feed_87
  · refine lv_iload_n hx hb d_Mo_feed_0 rfl (lv_at hl 1 rfl) ?_
    refine aw_ci ((va_runS (As := [.int (nI j)]) (rest := []) ⟨hx, hb, hml, hown, hG⟩ (k_Mo_isContext1 l j hj) (aw_wS 1 hG gw_10_34 gw_10_32 gw_0_10 gw_10_33 rfl rfl hd_Mo_isContext ⟨Nat.le_of_ble_eq_true rfl, Nat.le_of_ble_eq_true rfl⟩) aw_p0 rfl rfl hl.1 rfl (lv_room (Nat.le_of_ble_eq_true rfl)) d_Mo_feed_1 ⟨Nat.le_of_ble_eq_true rfl, Nat.le_of_ble_eq_true rfl⟩).run) (fun x12 hx12 => ?_)
    subst hx12
    refine lv_if_eq (tgt := 20) hx hb d_Mo_feed_4 (by decide) (fun h => absurd h (by decide +kernel)) (fun _ => ?_)
    refine lv_iload_n hx hb d_Mo_feed_7 rfl (lv_at hl 3 rfl) ?_
    refine lv_iload hx hb d_Mo_feed_8 (lv_at hl 4 rfl) ?_
    refine aw_ci ((va_runS (As := [.int (nI k), .int (nI mm)]) (rest := []) ⟨hx, hb, hml, hown, hG⟩ (k_Mo_isPart1 l k mm hk) (aw_wS 2 hG gw_12_29 gw_12_27 gw_0_10 gw_12_28 rfl rfl hd_Mo_isPart ⟨Nat.le_of_ble_eq_true rfl, Nat.le_of_ble_eq_true rfl⟩) aw_p0 rfl rfl hl.1 rfl (lv_room (Nat.le_of_ble_eq_true rfl)) d_Mo_feed_10 ⟨Nat.le_of_ble_eq_true rfl, Nat.le_of_ble_eq_true rfl⟩).run) (fun x13 hx13 => ?_)
    subst hx13
    refine lv_if_eq (tgt := 20) hx hb d_Mo_feed_13 (by decide) (fun h => absurd h (by decide +kernel)) (fun _ => ?_)
    refine lv_iconst (v := nI 1) hx hb d_Mo_feed_16 (by decide +kernel) ?_
    refine lv_goto (tgt := 21) hx hb d_Mo_feed_17 (by decide) ?_
    refine lv_istore hx hb d_Mo_feed_21 hl (by decide) rfl (fun ls hl => ?_)
    have hl : lv_has ls 7 [(5, .int (nI 1)), (0, .ref (aw_m ad 0)), (1, .int (nI j)), (2, .int bk), (3, .int (nI k)), (4, .int (nI mm))] := hl
    refine lv_aload_n hx hb d_Mo_feed_23 rfl (lv_at hl 1 rfl) ?_
    refine lv_iload hx hb d_Mo_feed_24 (lv_at hl 0 rfl) ?_
    refine lv_if_ne (tgt := 33) hx hb d_Mo_feed_26 (by decide) (fun _ => ?_) (fun h => absurd h (by decide +kernel))
    refine lv_aload_n hx hb d_Mo_feed_33 rfl (lv_at hl 1 rfl) ?_
    obtain ⟨x15, o16, hw17, he14⟩ := rd_M0 hSh
    refine va_get (C := R_Mo) (T := T_Mo) (N := 19) (v := .ref (aw_m ad 2)) hx hb hG in_Mo hown hK hP 67 he14 rfl 2 (by decide) (hG _ gw_9_27) (fun _ h => h) rfl d_Mo_feed_34 ?_
    refine lv_iload_n hx hb d_Mo_feed_37 rfl (lv_at hl 2 rfl) ?_
    obtain ⟨f19, hc20, he18⟩ := rd_M2 hSh
    refine aw_ild hx hb hK hP 69 0 he18 rfl (k := j) (by omega) (by decide) d_Mo_feed_38 ?_
    refine aw_ti (y := nI (M j).1) (hc20 _ (by omega)) ?_
    have hm := hSh.2.2.2.2.2 j (by omega)
    refine lv_iconst (v := nI 3) hx hb d_Mo_feed_39 (by decide +kernel) ?_
    refine lv_icmp_ne (tgt := 53) hx hb d_Mo_feed_40 (by decide) (fun h => absurd (show nI ((M j).1) = nI 3 from (nI_eq (by omega) (by omega)).mpr (by omega)) h) (fun _ => ?_)
    refine lv_aload_n hx hb d_Mo_feed_43 rfl (lv_at hl 1 rfl) ?_
    obtain ⟨x22, o23, hw24, he21⟩ := rd_M0 hSh
    refine va_get (C := R_Mo) (T := T_Mo) (N := 19) (v := .ref (aw_m ad 6)) hx hb hG in_Mo hown hK hP 67 he21 rfl 6 (by decide) (hG _ gw_9_31) (fun _ h => h) rfl d_Mo_feed_44 ?_
    refine lv_iload_n hx hb d_Mo_feed_47 rfl (lv_at hl 2 rfl) ?_
    obtain ⟨f26, hc27, he25⟩ := rd_M6 hSh
    refine aw_ild hx hb hK hP 73 0 he25 rfl (k := j) (by omega) (by decide) d_Mo_feed_48 ?_
    refine aw_ti (y := nI (M j).2) (hc27 _ (by omega)) ?_
    have hm := hSh.2.2.2.2.2 j (by omega)
    refine lv_iconst (v := nI 5) hx hb d_Mo_feed_49 (by decide +kernel) ?_
    refine lv_icmp_ne (tgt := 57) hx hb d_Mo_feed_50 (by decide) (fun h => absurd (show nI ((M j).2) = nI 5 from (nI_eq (by omega) (by omega)).mpr (by omega)) h) (fun _ => ?_)
    refine lv_iconst (v := nI 2) hx hb d_Mo_feed_53 (by decide +kernel) ?_
    refine lv_goto (tgt := 80) hx hb d_Mo_feed_54 (by decide) ?_
    obtain ⟨_, _, _, he28⟩ := rd_M0 hSh
    refine va_calli (va_runV (As := [.int (nI 2)]) (rest := []) ⟨hx, hb, hml, hown, hG⟩ (k_Mo_refused1 l D g ad G M F N0 2 (by omega)) (aw_wV 1 hG gw_10_37 gw_10_35 gw_0_10 gw_10_36 gw_p_9 rfl rfl hd_Mo_refused ⟨Nat.le_of_ble_eq_true rfl, Nat.le_of_ble_eq_true rfl⟩) (aw_qV (va_recv hK hP rfl he28) hP hD hSh hU hS) rfl rfl hl.1 rfl (lv_room (Nat.le_of_ble_eq_true rfl)) d_Mo_feed_80 ⟨Nat.le_of_ble_eq_true rfl, Nat.le_of_ble_eq_true rfl⟩) hS (fun _ _ h => h) (fun _ h => h) (fun x29 u8 t8 H locs ht _ hpx29 hB _ _ hS => ?_)
    obtain ⟨L, hP, hD, hSh⟩ := hB
    rw [ht] at hP
    clear ht
    subst hpx29
    refine lv_if_eq (tgt := 88) hx hb d_Mo_feed_83 (by decide) (fun h => absurd h (by decide +kernel)) (fun _ => ?_)
    refine lv_iconst (v := nI 0) hx hb d_Mo_feed_86 (by decide +kernel) ?_
    exact W.iret hx hb hr (fun t ht hW => ⟨⟨_, (), rfl, trivial, ⟨_, aw_Hr ht hP hD hSh⟩⟩, hS.F ht⟩) hS.2.2 d_Mo_feed_87
abbrev ws_Mo_feedXa : List Cond := Cond.code y_Mo_feed b_Mo_feed 7 (some .int) :: aw_G
abbrev rm_Mo_feedXa : Room := { frames := 5, cells := 0, slots := 0, locals := 130 }
set_option maxHeartbeats 4000000 in
set_option maxRecDepth 100000 in
theorem k_Mo_feedXa (l : Launch) (D : va_G) (g : Nat → ClassId) (ad : Nat → Nat) (G M : Nat → Nat × Nat) (F : Int32) (N0 : Nat) (j : Nat) (bk : Int32) (k : Nat) (mm : Nat) (hj : j < 4) (hk : k + mm ≤ 64) (hs : (M j).1 = 3) (hm : (M j).2 ≤ 1) (hr8 : mm % 8 ≠ 0) : Met l y_Mo_feed ws_Mo_feedXa rm_Mo_feedXa (va_Pc ([.ref (aw_m ad 0), .int (nI j), .int bk, .int (nI k), .int (nI mm)] : List Value) (aw_B D g ad G M F N0)) (va_Qi (fun r (_ : Unit) => True) (fun (_ : Unit) t => ∃ F' : Int32, aw_H D g ad G M F' N0 t.heap) (aw_Z N0)) 0 0 (aw_Z N0) := by
  refine Met.ofW (cc := b_Mo_feed) (maxL := 7) (ret := (some .int)) (by decide) rfl ?_
  intro p e s m args below meth c s₁ B hml hv
  obtain ⟨rfl, ⟨L, hP, hD, hSh⟩, hU⟩ := hv
  have hx := B.exec
  have hb := B.bytes
  have hr := B.returns
  have hG : ∀ w ∈ aw_G, w.before _ s = true := fun w h => atoms_spec (ws := ws_Mo_feedXa) B.pre w (List.mem_cons_of_mem _ h)
  have hown : s.vm.findClass "RuleCiphersModel" = some m.cls := findClass_of_methodNamed B.named
  have hlocks := B.notSynchronized
  have hE := hU.1
  have hK := hE.1
  have hN := hE.2.1
  have hS : va_S (aw_Z N0) s.heap s.heap [] := va_S.rf
  have hl := lv_entry ([.ref (aw_m ad 0), .int (nI j), .int bk, .int (nI k), .int (nI mm)] : List Value) (n := 7) (Nat.le_of_ble_eq_true rfl)
  rw [lg_entry_eq]
  generalize (lg_sl ([.ref (aw_m ad 0), .int (nI j), .int bk, .int (nI k), .int (nI mm)] : List Value) ++ List.replicate (7 - (lg_sl ([.ref (aw_m ad 0), .int (nI j), .int bk, .int (nI k), .int (nI mm)] : List Value)).length) Slot.unset).toArray = ls at hl ⊢
  have hl : lv_has ls 7 [(0, .ref (aw_m ad 0)), (1, .int (nI j)), (2, .int bk), (3, .int (nI k)), (4, .int (nI mm))] := hl
  refine lv_iload_n hx hb d_Mo_feed_0 rfl (lv_at hl 1 rfl) ?_
  refine aw_ci ((va_runS (As := [.int (nI j)]) (rest := []) ⟨hx, hb, hml, hown, hG⟩ (k_Mo_isContext1 l j hj) (aw_wS 1 hG gw_10_34 gw_10_32 gw_0_10 gw_10_33 rfl rfl hd_Mo_isContext ⟨Nat.le_of_ble_eq_true rfl, Nat.le_of_ble_eq_true rfl⟩) aw_p0 rfl rfl hl.1 rfl (lv_room (Nat.le_of_ble_eq_true rfl)) d_Mo_feed_1 ⟨Nat.le_of_ble_eq_true rfl, Nat.le_of_ble_eq_true rfl⟩).run) (fun x1 hx1 => ?_)
  subst hx1
  refine lv_if_eq (tgt := 20) hx hb d_Mo_feed_4 (by decide) (fun h => absurd h (by decide +kernel)) (fun _ => ?_)
  refine lv_iload_n hx hb d_Mo_feed_7 rfl (lv_at hl 3 rfl) ?_
  refine lv_iload hx hb d_Mo_feed_8 (lv_at hl 4 rfl) ?_
  refine aw_ci ((va_runS (As := [.int (nI k), .int (nI mm)]) (rest := []) ⟨hx, hb, hml, hown, hG⟩ (k_Mo_isPart1 l k mm hk) (aw_wS 2 hG gw_12_29 gw_12_27 gw_0_10 gw_12_28 rfl rfl hd_Mo_isPart ⟨Nat.le_of_ble_eq_true rfl, Nat.le_of_ble_eq_true rfl⟩) aw_p0 rfl rfl hl.1 rfl (lv_room (Nat.le_of_ble_eq_true rfl)) d_Mo_feed_10 ⟨Nat.le_of_ble_eq_true rfl, Nat.le_of_ble_eq_true rfl⟩).run) (fun x2 hx2 => ?_)
  subst hx2
  refine lv_if_eq (tgt := 20) hx hb d_Mo_feed_13 (by decide) (fun h => absurd h (by decide +kernel)) (fun _ => ?_)
  refine lv_iconst (v := nI 1) hx hb d_Mo_feed_16 (by decide +kernel) ?_
  refine lv_goto (tgt := 21) hx hb d_Mo_feed_17 (by decide) ?_
  refine lv_istore hx hb d_Mo_feed_21 hl (by decide) rfl (fun ls hl => ?_)
  have hl : lv_has ls 7 [(5, .int (nI 1)), (0, .ref (aw_m ad 0)), (1, .int (nI j)), (2, .int bk), (3, .int (nI k)), (4, .int (nI mm))] := hl
  refine lv_aload_n hx hb d_Mo_feed_23 rfl (lv_at hl 1 rfl) ?_
  refine lv_iload hx hb d_Mo_feed_24 (lv_at hl 0 rfl) ?_
  refine lv_if_ne (tgt := 33) hx hb d_Mo_feed_26 (by decide) (fun _ => ?_) (fun h => absurd h (by decide +kernel))
  refine lv_aload_n hx hb d_Mo_feed_33 rfl (lv_at hl 1 rfl) ?_
  obtain ⟨x4, o5, hw6, he3⟩ := rd_M0 hSh
  refine va_get (C := R_Mo) (T := T_Mo) (N := 19) (v := .ref (aw_m ad 2)) hx hb hG in_Mo hown hK hP 67 he3 rfl 2 (by decide) (hG _ gw_9_27) (fun _ h => h) rfl d_Mo_feed_34 ?_
  refine lv_iload_n hx hb d_Mo_feed_37 rfl (lv_at hl 2 rfl) ?_
  obtain ⟨f8, hc9, he7⟩ := rd_M2 hSh
  refine aw_ild hx hb hK hP 69 0 he7 rfl (k := j) (by omega) (by decide) d_Mo_feed_38 ?_
  refine aw_ti (y := nI (M j).1) (hc9 _ (by omega)) ?_
  have hm := hSh.2.2.2.2.2 j (by omega)
  refine lv_iconst (v := nI 3) hx hb d_Mo_feed_39 (by decide +kernel) ?_
  refine lv_icmp_ne (tgt := 53) hx hb d_Mo_feed_40 (by decide) (fun h => absurd (show nI ((M j).1) = nI 3 from (nI_eq (by omega) (by omega)).mpr (by omega)) h) (fun _ => ?_)
  refine lv_aload_n hx hb d_Mo_feed_43 rfl (lv_at hl 1 rfl) ?_
  obtain ⟨x11, o12, hw13, he10⟩ := rd_M0 hSh
  refine va_get (C := R_Mo) (T := T_Mo) (N := 19) (v := .ref (aw_m ad 6)) hx hb hG in_Mo hown hK hP 67 he10 rfl 6 (by decide) (hG _ gw_9_31) (fun _ h => h) rfl d_Mo_feed_44 ?_
  refine lv_iload_n hx hb d_Mo_feed_47 rfl (lv_at hl 2 rfl) ?_
  obtain ⟨f15, hc16, he14⟩ := rd_M6 hSh
  refine aw_ild hx hb hK hP 73 0 he14 rfl (k := j) (by omega) (by decide) d_Mo_feed_48 ?_
  refine aw_ti (y := nI (M j).2) (hc16 _ (by omega)) ?_
  have hm := hSh.2.2.2.2.2 j (by omega)
  refine lv_iconst (v := nI 5) hx hb d_Mo_feed_49 (by decide +kernel) ?_
  refine lv_icmp_ne (tgt := 57) hx hb d_Mo_feed_50 (by decide) (fun _ => ?_) (fun h => absurd h (show ¬ nI ((M j).2) = nI 5 from fun h9 => absurd ((nI_eq (by omega) (by omega)).mp h9) (by omega)))
  refine lv_aload_n hx hb d_Mo_feed_57 rfl (lv_at hl 1 rfl) ?_
  obtain ⟨x18, o19, hw20, he17⟩ := rd_M0 hSh
  refine va_get (C := R_Mo) (T := T_Mo) (N := 19) (v := .ref (aw_m ad 6)) hx hb hG in_Mo hown hK hP 67 he17 rfl 6 (by decide) (hG _ gw_9_31) (fun _ h => h) rfl d_Mo_feed_58 ?_
  refine lv_iload_n hx hb d_Mo_feed_61 rfl (lv_at hl 2 rfl) ?_
  obtain ⟨f22, hc23, he21⟩ := rd_M6 hSh
  refine aw_ild hx hb hK hP 73 0 he21 rfl (k := j) (by omega) (by decide) d_Mo_feed_62 ?_
  refine aw_ti (y := nI (M j).2) (hc23 _ (by omega)) ?_
  have hm := hSh.2.2.2.2.2 j (by omega)
  refine lv_iconst (v := nI 2) hx hb d_Mo_feed_63 (by decide +kernel) ?_
  refine lv_icmp_ge (tgt := 79) hx hb d_Mo_feed_64 (by decide) (fun h => absurd h (show ¬ nI 2 ≤ nI ((M j).2) from fun h9 => absurd ((nI_leI (by omega) (by omega)).mp h9) (by omega))) (fun _ => ?_)
  refine lv_iload hx hb d_Mo_feed_67 (lv_at hl 5 rfl) ?_
  refine lv_bipush (v := nI 8) hx hb d_Mo_feed_69 (by decide +kernel) ?_
  refine lv_irem hx hb d_Mo_feed_71 (by decide +kernel) ?_
  refine aw_ti (pk_rem (a := mm) (d := 8) (by omega) (by omega) (by omega)) ?_
  refine lv_if_eq (tgt := 79) hx hb d_Mo_feed_72 (by decide) (fun h => absurd h (show ¬ nI (mm % 8) = nI 0 from fun h9 => absurd ((nI_eq (by omega) (by omega)).mp h9) (by omega))) (fun _ => ?_)
  refine lv_iconst (v := nI 3) hx hb d_Mo_feed_75 (by decide +kernel) ?_
  refine lv_goto (tgt := 80) hx hb d_Mo_feed_76 (by decide) ?_
  obtain ⟨_, _, _, he24⟩ := rd_M0 hSh
  refine va_calli (va_runV (As := [.int (nI 3)]) (rest := []) ⟨hx, hb, hml, hown, hG⟩ (k_Mo_refused1 l D g ad G M F N0 3 (by omega)) (aw_wV 1 hG gw_10_37 gw_10_35 gw_0_10 gw_10_36 gw_p_9 rfl rfl hd_Mo_refused ⟨Nat.le_of_ble_eq_true rfl, Nat.le_of_ble_eq_true rfl⟩) (aw_qV (va_recv hK hP rfl he24) hP hD hSh hU hS) rfl rfl hl.1 rfl (lv_room (Nat.le_of_ble_eq_true rfl)) d_Mo_feed_80 ⟨Nat.le_of_ble_eq_true rfl, Nat.le_of_ble_eq_true rfl⟩) hS (fun _ _ h => h) (fun _ h => h) (fun x25 u8 t8 H locs ht _ hpx25 hB _ _ hS => ?_)
  obtain ⟨L, hP, hD, hSh⟩ := hB
  rw [ht] at hP
  clear ht
  subst hpx25
  refine lv_if_eq (tgt := 88) hx hb d_Mo_feed_83 (by decide) (fun h => absurd h (by decide +kernel)) (fun _ => ?_)
  refine lv_iconst (v := nI 0) hx hb d_Mo_feed_86 (by decide +kernel) ?_
  exact W.iret hx hb hr (fun t ht hW => ⟨⟨_, (), rfl, trivial, ⟨_, aw_Hr ht hP hD hSh⟩⟩, hS.F ht⟩) hS.2.2 d_Mo_feed_87
abbrev ws_Mo_feed1 : List Cond := Cond.code y_Mo_feed b_Mo_feed 7 (some .int) :: aw_G
abbrev rm_Mo_feed1 : Room := { frames := 5, cells := 0, slots := 0, locals := 130 }
set_option maxHeartbeats 4000000 in
set_option maxRecDepth 100000 in
theorem k_Mo_feed1 (l : Launch) (D : va_G) (g : Nat → ClassId) (ad : Nat → Nat) (G M : Nat → Nat × Nat) (F : Int32) (N0 : Nat) (j : Nat) (bk : Int32) (k : Nat) (mm : Nat) (hj : j < 4) (hk : k + mm ≤ 64) (hs : (M j).1 = 3) (hm : 2 ≤ (M j).2) (hm5 : (M j).2 ≤ 4) : Met l y_Mo_feed ws_Mo_feed1 rm_Mo_feed1 (va_Pc ([.ref (aw_m ad 0), .int (nI j), .int bk, .int (nI k), .int (nI mm)] : List Value) (aw_B D g ad G M F N0)) (va_Qi (fun r (_ : Unit) => True) (fun (_ : Unit) t => ∃ F' : Int32, aw_H D g ad G M F' N0 t.heap) (aw_Z N0)) 0 0 (aw_Z N0) := by
  refine Met.ofW (cc := b_Mo_feed) (maxL := 7) (ret := (some .int)) (by decide) rfl ?_
  intro p e s m args below meth c s₁ B hml hv
  obtain ⟨rfl, ⟨L, hP, hD, hSh⟩, hU⟩ := hv
  have hx := B.exec
  have hb := B.bytes
  have hr := B.returns
  have hG : ∀ w ∈ aw_G, w.before _ s = true := fun w h => atoms_spec (ws := ws_Mo_feed1) B.pre w (List.mem_cons_of_mem _ h)
  have hown : s.vm.findClass "RuleCiphersModel" = some m.cls := findClass_of_methodNamed B.named
  have hlocks := B.notSynchronized
  have hE := hU.1
  have hK := hE.1
  have hN := hE.2.1
  have hS : va_S (aw_Z N0) s.heap s.heap [] := va_S.rf
  have hl := lv_entry ([.ref (aw_m ad 0), .int (nI j), .int bk, .int (nI k), .int (nI mm)] : List Value) (n := 7) (Nat.le_of_ble_eq_true rfl)
  rw [lg_entry_eq]
  generalize (lg_sl ([.ref (aw_m ad 0), .int (nI j), .int bk, .int (nI k), .int (nI mm)] : List Value) ++ List.replicate (7 - (lg_sl ([.ref (aw_m ad 0), .int (nI j), .int bk, .int (nI k), .int (nI mm)] : List Value)).length) Slot.unset).toArray = ls at hl ⊢
  have hl : lv_has ls 7 [(0, .ref (aw_m ad 0)), (1, .int (nI j)), (2, .int bk), (3, .int (nI k)), (4, .int (nI mm))] := hl
  refine lv_iload_n hx hb d_Mo_feed_0 rfl (lv_at hl 1 rfl) ?_
  refine aw_ci ((va_runS (As := [.int (nI j)]) (rest := []) ⟨hx, hb, hml, hown, hG⟩ (k_Mo_isContext1 l j hj) (aw_wS 1 hG gw_10_34 gw_10_32 gw_0_10 gw_10_33 rfl rfl hd_Mo_isContext ⟨Nat.le_of_ble_eq_true rfl, Nat.le_of_ble_eq_true rfl⟩) aw_p0 rfl rfl hl.1 rfl (lv_room (Nat.le_of_ble_eq_true rfl)) d_Mo_feed_1 ⟨Nat.le_of_ble_eq_true rfl, Nat.le_of_ble_eq_true rfl⟩).run) (fun x1 hx1 => ?_)
  subst hx1
  refine lv_if_eq (tgt := 20) hx hb d_Mo_feed_4 (by decide) (fun h => absurd h (by decide +kernel)) (fun _ => ?_)
  refine lv_iload_n hx hb d_Mo_feed_7 rfl (lv_at hl 3 rfl) ?_
  refine lv_iload hx hb d_Mo_feed_8 (lv_at hl 4 rfl) ?_
  refine aw_ci ((va_runS (As := [.int (nI k), .int (nI mm)]) (rest := []) ⟨hx, hb, hml, hown, hG⟩ (k_Mo_isPart1 l k mm hk) (aw_wS 2 hG gw_12_29 gw_12_27 gw_0_10 gw_12_28 rfl rfl hd_Mo_isPart ⟨Nat.le_of_ble_eq_true rfl, Nat.le_of_ble_eq_true rfl⟩) aw_p0 rfl rfl hl.1 rfl (lv_room (Nat.le_of_ble_eq_true rfl)) d_Mo_feed_10 ⟨Nat.le_of_ble_eq_true rfl, Nat.le_of_ble_eq_true rfl⟩).run) (fun x2 hx2 => ?_)
  subst hx2
  refine lv_if_eq (tgt := 20) hx hb d_Mo_feed_13 (by decide) (fun h => absurd h (by decide +kernel)) (fun _ => ?_)
  refine lv_iconst (v := nI 1) hx hb d_Mo_feed_16 (by decide +kernel) ?_
  refine lv_goto (tgt := 21) hx hb d_Mo_feed_17 (by decide) ?_
  refine lv_istore hx hb d_Mo_feed_21 hl (by decide) rfl (fun ls hl => ?_)
  have hl : lv_has ls 7 [(5, .int (nI 1)), (0, .ref (aw_m ad 0)), (1, .int (nI j)), (2, .int bk), (3, .int (nI k)), (4, .int (nI mm))] := hl
  refine lv_aload_n hx hb d_Mo_feed_23 rfl (lv_at hl 1 rfl) ?_
  refine lv_iload hx hb d_Mo_feed_24 (lv_at hl 0 rfl) ?_
  refine lv_if_ne (tgt := 33) hx hb d_Mo_feed_26 (by decide) (fun _ => ?_) (fun h => absurd h (by decide +kernel))
  refine lv_aload_n hx hb d_Mo_feed_33 rfl (lv_at hl 1 rfl) ?_
  obtain ⟨x4, o5, hw6, he3⟩ := rd_M0 hSh
  refine va_get (C := R_Mo) (T := T_Mo) (N := 19) (v := .ref (aw_m ad 2)) hx hb hG in_Mo hown hK hP 67 he3 rfl 2 (by decide) (hG _ gw_9_27) (fun _ h => h) rfl d_Mo_feed_34 ?_
  refine lv_iload_n hx hb d_Mo_feed_37 rfl (lv_at hl 2 rfl) ?_
  obtain ⟨f8, hc9, he7⟩ := rd_M2 hSh
  refine aw_ild hx hb hK hP 69 0 he7 rfl (k := j) (by omega) (by decide) d_Mo_feed_38 ?_
  refine aw_ti (y := nI (M j).1) (hc9 _ (by omega)) ?_
  have hm := hSh.2.2.2.2.2 j (by omega)
  refine lv_iconst (v := nI 3) hx hb d_Mo_feed_39 (by decide +kernel) ?_
  refine lv_icmp_ne (tgt := 53) hx hb d_Mo_feed_40 (by decide) (fun h => absurd (show nI ((M j).1) = nI 3 from (nI_eq (by omega) (by omega)).mpr (by omega)) h) (fun _ => ?_)
  refine lv_aload_n hx hb d_Mo_feed_43 rfl (lv_at hl 1 rfl) ?_
  obtain ⟨x11, o12, hw13, he10⟩ := rd_M0 hSh
  refine va_get (C := R_Mo) (T := T_Mo) (N := 19) (v := .ref (aw_m ad 6)) hx hb hG in_Mo hown hK hP 67 he10 rfl 6 (by decide) (hG _ gw_9_31) (fun _ h => h) rfl d_Mo_feed_44 ?_
  refine lv_iload_n hx hb d_Mo_feed_47 rfl (lv_at hl 2 rfl) ?_
  obtain ⟨f15, hc16, he14⟩ := rd_M6 hSh
  refine aw_ild hx hb hK hP 73 0 he14 rfl (k := j) (by omega) (by decide) d_Mo_feed_48 ?_
  refine aw_ti (y := nI (M j).2) (hc16 _ (by omega)) ?_
  have hm := hSh.2.2.2.2.2 j (by omega)
  refine lv_iconst (v := nI 5) hx hb d_Mo_feed_49 (by decide +kernel) ?_
  refine lv_icmp_ne (tgt := 57) hx hb d_Mo_feed_50 (by decide) (fun _ => ?_) (fun h => absurd h (show ¬ nI ((M j).2) = nI 5 from fun h9 => absurd ((nI_eq (by omega) (by omega)).mp h9) (by omega)))
  refine lv_aload_n hx hb d_Mo_feed_57 rfl (lv_at hl 1 rfl) ?_
  obtain ⟨x18, o19, hw20, he17⟩ := rd_M0 hSh
  refine va_get (C := R_Mo) (T := T_Mo) (N := 19) (v := .ref (aw_m ad 6)) hx hb hG in_Mo hown hK hP 67 he17 rfl 6 (by decide) (hG _ gw_9_31) (fun _ h => h) rfl d_Mo_feed_58 ?_
  refine lv_iload_n hx hb d_Mo_feed_61 rfl (lv_at hl 2 rfl) ?_
  obtain ⟨f22, hc23, he21⟩ := rd_M6 hSh
  refine aw_ild hx hb hK hP 73 0 he21 rfl (k := j) (by omega) (by decide) d_Mo_feed_62 ?_
  refine aw_ti (y := nI (M j).2) (hc23 _ (by omega)) ?_
  have hm := hSh.2.2.2.2.2 j (by omega)
  refine lv_iconst (v := nI 2) hx hb d_Mo_feed_63 (by decide +kernel) ?_
  refine lv_icmp_ge (tgt := 79) hx hb d_Mo_feed_64 (by decide) (fun _ => ?_) (fun h => absurd (show nI 2 ≤ nI ((M j).2) from (nI_leI (by omega) (by omega)).mpr (by omega)) h)
  refine lv_iconst (v := nI 0) hx hb d_Mo_feed_79 (by decide +kernel) ?_
  obtain ⟨_, _, _, he24⟩ := rd_M0 hSh
  refine va_calli (va_runV (As := [.int (nI 0)]) (rest := []) ⟨hx, hb, hml, hown, hG⟩ (k_Mo_refused0 l D g ad G M F N0) (aw_wV 1 hG gw_10_37 gw_10_35 gw_0_10 gw_10_36 gw_p_9 rfl rfl hd_Mo_refused ⟨Nat.le_of_ble_eq_true rfl, Nat.le_of_ble_eq_true rfl⟩) (aw_qV (va_recv hK hP rfl he24) hP hD hSh hU hS) rfl rfl hl.1 rfl (lv_room (Nat.le_of_ble_eq_true rfl)) d_Mo_feed_80 ⟨Nat.le_of_ble_eq_true rfl, Nat.le_of_ble_eq_true rfl⟩) hS (fun _ _ h => h) (fun _ h => h) (fun x25 u8 t8 H locs ht _ hpx25 hB _ _ hS => ?_)
  obtain ⟨L, hP, hD, hSh⟩ := hB
  rw [ht] at hP
  clear ht
  subst hpx25
  refine lv_if_eq (tgt := 88) hx hb d_Mo_feed_83 (by decide) (fun _ => ?_) (fun h => absurd (by decide +kernel) h)
  refine lv_aload_n hx hb d_Mo_feed_88 rfl (lv_at hl 1 rfl) ?_
  refine lv_iload_n hx hb d_Mo_feed_89 rfl (lv_at hl 2 rfl) ?_
  obtain ⟨_, _, _, he26⟩ := rd_M0 hSh
  refine va_callv (va_runV (As := [.int (nI j)]) (rest := []) ⟨hx, hb, hml, hown, hG⟩ (k_Mo_prepare l D g ad G M (nI 0) N0 j hj) (aw_wV 1 hG gw_11_6 gw_11_4 gw_0_10 gw_11_5 gw_p_12 rfl rfl hd_Mo_prepare ⟨Nat.le_of_ble_eq_true rfl, Nat.le_of_ble_eq_true rfl⟩) (aw_qV (va_recv hK hP rfl he26) hP hD hSh hU hS) rfl rfl hl.1 rfl (lv_room (Nat.le_of_ble_eq_true rfl)) d_Mo_feed_90 ⟨Nat.le_of_ble_eq_true rfl, Nat.le_of_ble_eq_true rfl⟩) hS (fun _ _ h => h) (fun _ h => h) (fun u8 t8 H locs ht _ _ hB _ _ hS => ?_)
  obtain ⟨L, hP, hD, hSh⟩ := hB
  rw [ht] at hP
  clear ht
  refine lv_iconst (v := nI 0) hx hb d_Mo_feed_93 (by decide +kernel) ?_
  refine lv_istore hx hb d_Mo_feed_94 hl (by decide) rfl (fun ls hl => ?_)
  have hl : lv_has ls 7 [(6, .int (nI 0)), (5, .int (nI 1)), (0, .ref (aw_m ad 0)), (1, .int (nI j)), (2, .int bk), (3, .int (nI k)), (4, .int (nI mm))] := hl
  have L96 : ∀ (d t : Nat)  (H : Heap) (locs : List Loc) (L : va_W) (ls : Array Slot), t + d = mm → va_P D aw_C L H → va_D (aw_Z N0) L → aw_Sh g ad G M (nI 0) L → va_S (aw_Z N0) s.heap H locs → lv_has ls 7 [(0, .ref (aw_m ad 0)), (1, .int (nI j)), (2, .int bk), (3, .int (nI k)), (4, .int (nI mm)), (5, .int (nI 1)), (6, .int (nI t))] → W p l e (headSpec ws_Mo_feed1 rm_Mo_feed1).room s m ([.ref (aw_m ad 0), .int (nI j), .int bk, .int (nI k), .int (nI mm)] : List Value).toArray below meth c H locs 0 0 (MQ below (va_Qi (fun r (_ : Unit) => True) (fun (_ : Unit) t => ∃ F' : Int32, aw_H D g ad G M F' N0 t.heap) (aw_Z N0)) ([.ref (aw_m ad 0), .int (nI j), .int bk, .int (nI k), .int (nI mm)] : List Value).toArray s 0 0 (aw_Z N0)) (F0 m 96 ls []) := by
    clear hP hD hSh hS
    clear hl
    intro d
    induction d with
    | zero => 
      intro t  H locs L ls ht0 hP hD hSh hS hl
      refine lv_iload hx hb d_Mo_feed_96 (lv_at hl 6 rfl) ?_
      refine lv_iload hx hb d_Mo_feed_98 (lv_at hl 4 rfl) ?_
      refine lv_icmp_ge (tgt := 150) hx hb d_Mo_feed_100 (by decide) (fun _ => ?_) (fun h => absurd (show nI mm ≤ nI t from (nI_leI (by omega) (by omega)).mpr (by omega)) h)
      refine lv_aload_n hx hb d_Mo_feed_150 rfl (lv_at hl 0 rfl) ?_
      obtain ⟨x28, o29, hw30, he27⟩ := rd_M0 hSh
      refine va_get (C := R_Mo) (T := T_Mo) (N := 19) (v := .ref (aw_m ad 10)) hx hb hG in_Mo hown hK hP 67 he27 rfl 10 (by decide) (hG _ gw_9_35) (fun _ h => h) rfl d_Mo_feed_151 ?_
      refine lv_iload_n hx hb d_Mo_feed_154 rfl (lv_at hl 1 rfl) ?_
      refine lv_aload_n hx hb d_Mo_feed_155 rfl (lv_at hl 0 rfl) ?_
      obtain ⟨x32, o33, hw34, he31⟩ := rd_M0 hSh
      refine va_get (C := R_Mo) (T := T_Mo) (N := 19) (v := .ref (aw_m ad 10)) hx hb hG in_Mo hown hK hP 67 he31 rfl 10 (by decide) (hG _ gw_9_35) (fun _ h => h) rfl d_Mo_feed_156 ?_
      refine lv_iload_n hx hb d_Mo_feed_159 rfl (lv_at hl 1 rfl) ?_
      obtain ⟨f36, he35⟩ := rd_M10 hSh
      refine aw_ild hx hb hK hP 77 0 he35 rfl (k := j) (by omega) (by decide) d_Mo_feed_160 ?_
      refine lv_topi (fun x37 _ => ?_)
      refine lv_iload hx hb d_Mo_feed_161 (lv_at hl 4 rfl) ?_
      refine lv_iadd hx hb d_Mo_feed_163 ?_
      refine lv_topi (fun x38 _ => ?_)
      obtain ⟨f40, he39⟩ := rd_M10 hSh
      refine aw_istI hx hb hK hP hD hS 77 0 he39 rfl (k := j) (by omega) (by decide) d_Mo_feed_164 (wr_M10 hSh _) (fun H locs L hP hD hSh hS => ?_)
      refine lv_aload_n hx hb d_Mo_feed_165 rfl (lv_at hl 0 rfl) ?_
      obtain ⟨x42, o43, hw44, he41⟩ := rd_M0 hSh
      refine va_get (C := R_Mo) (T := T_Mo) (N := 19) (v := .ref (aw_m ad 10)) hx hb hG in_Mo hown hK hP 67 he41 rfl 10 (by decide) (hG _ gw_9_35) (fun _ h => h) rfl d_Mo_feed_166 ?_
      refine lv_iload_n hx hb d_Mo_feed_169 rfl (lv_at hl 1 rfl) ?_
      obtain ⟨f46, he45⟩ := rd_M10 hSh
      refine aw_ild hx hb hK hP 77 0 he45 rfl (k := j) (by omega) (by decide) d_Mo_feed_170 ?_
      refine lv_topi (fun x47 _ => ?_)
      exact W.iret hx hb hr (fun t ht hW => ⟨⟨_, (), rfl, trivial, ⟨_, aw_Hr ht hP hD hSh⟩⟩, hS.F ht⟩) hS.2.2 d_Mo_feed_171
    | succ d ih => 
      intro t  H locs L ls ht0 hP hD hSh hS hl
      refine lv_iload hx hb d_Mo_feed_96 (lv_at hl 6 rfl) ?_
      refine lv_iload hx hb d_Mo_feed_98 (lv_at hl 4 rfl) ?_
      refine lv_icmp_ge (tgt := 150) hx hb d_Mo_feed_100 (by decide) (fun h => absurd h (show ¬ nI mm ≤ nI t from fun h9 => absurd ((nI_leI (by omega) (by omega)).mp h9) (by omega))) (fun _ => ?_)
      refine lv_aload_n hx hb d_Mo_feed_103 rfl (lv_at hl 0 rfl) ?_
      obtain ⟨x49, o50, hw51, he48⟩ := rd_M0 hSh
      refine va_get (C := R_Mo) (T := T_Mo) (N := 19) (v := .ref (aw_m ad 6)) hx hb hG in_Mo hown hK hP 67 he48 rfl 6 (by decide) (hG _ gw_9_31) (fun _ h => h) rfl d_Mo_feed_104 ?_
      refine lv_iload_n hx hb d_Mo_feed_107 rfl (lv_at hl 1 rfl) ?_
      obtain ⟨f53, hc54, he52⟩ := rd_M6 hSh
      refine aw_ild hx hb hK hP 73 0 he52 rfl (k := j) (by omega) (by decide) d_Mo_feed_108 ?_
      refine aw_ti (y := nI (M j).2) (hc54 _ (by omega)) ?_
      have hm := hSh.2.2.2.2.2 j (by omega)
      refine lv_iconst (v := nI 1) hx hb d_Mo_feed_109 (by decide +kernel) ?_
      refine lv_icmp_le (tgt := 126) hx hb d_Mo_feed_110 (by decide) (fun h => absurd h (show ¬ nI ((M j).2) ≤ nI 1 from fun h9 => absurd ((nI_leI (by omega) (by omega)).mp h9) (by omega))) (fun _ => ?_)
      refine lv_aload_n hx hb d_Mo_feed_113 rfl (lv_at hl 0 rfl) ?_
      refine lv_iload_n hx hb d_Mo_feed_114 rfl (lv_at hl 1 rfl) ?_
      refine lv_iload_n hx hb d_Mo_feed_115 rfl (lv_at hl 2 rfl) ?_
      refine lv_iload_n hx hb d_Mo_feed_116 rfl (lv_at hl 3 rfl) ?_
      refine lv_iload hx hb d_Mo_feed_117 (lv_at hl 6 rfl) ?_
      refine lv_iadd hx hb d_Mo_feed_119 ?_
      refine aw_ti (nI_add k t) ?_
      obtain ⟨_, _, _, he55⟩ := rd_M0 hSh
      refine va_callv (va_runV (As := [.int (nI j), .int bk, .int (nI (k + t))]) (rest := []) ⟨hx, hb, hml, hown, hG⟩ (k_Mo_feedByte l D g ad G M (nI 0) N0 j bk (k + t) hj (by omega)) (aw_wV 3 hG gw_12_32 gw_12_30 gw_0_10 gw_12_31 gw_p_20 rfl rfl hd_Mo_feedByte ⟨Nat.le_of_ble_eq_true rfl, Nat.le_of_ble_eq_true rfl⟩) (aw_qV (va_recv hK hP rfl he55) hP hD hSh hU hS) rfl rfl hl.1 rfl (lv_room (Nat.le_of_ble_eq_true rfl)) d_Mo_feed_120 ⟨Nat.le_of_ble_eq_true rfl, Nat.le_of_ble_eq_true rfl⟩) hS (fun _ _ h => h) (fun _ h => h) (fun u8 t8 H locs ht _ _ hB _ _ hS => ?_)
      obtain ⟨L, hP, hD, hSh⟩ := hB
      rw [ht] at hP
      clear ht
      refine lv_goto (tgt := 144) hx hb d_Mo_feed_123 (by decide) ?_
      refine lv_iinc (k := 6) (v := nI (t + 1)) hx hb d_Mo_feed_144 hl rfl (aw_inc t 1 1 (by decide +kernel)) (by decide) rfl (fun ls hl => ?_)
      have hl : lv_has ls 7 [(6, .int (nI (t + 1))), (0, .ref (aw_m ad 0)), (1, .int (nI j)), (2, .int bk), (3, .int (nI k)), (4, .int (nI mm)), (5, .int (nI 1))] := hl
      refine lv_goto (tgt := 96) hx hb d_Mo_feed_147 (by decide) ?_
      have hl := lv_sub hl (l' := [(0, .ref (aw_m ad 0)), (1, .int (nI j)), (2, .int bk), (3, .int (nI k)), (4, .int (nI mm)), (5, .int (nI 1)), (6, .int (nI (t + 1)))]) [1, 2, 3, 4, 5, 6, 0] rfl
      exact ih (t + 1)  H locs L ls (by omega) hP hD hSh hS (by first | exact hl | simpa [Nat.add_assoc, Nat.mul_add, Nat.add_comm] using hl)
  have hl := lv_sub hl (l' := [(0, .ref (aw_m ad 0)), (1, .int (nI j)), (2, .int bk), (3, .int (nI k)), (4, .int (nI mm)), (5, .int (nI 1)), (6, .int (nI 0))]) [2, 3, 4, 5, 6, 1, 0] rfl
  exact L96 mm 0  _ _ _ ls (by omega) hP hD hSh hS (by first | exact hl | simpa using hl)
abbrev ws_Mo_feed8 : List Cond := Cond.code y_Mo_feed b_Mo_feed 7 (some .int) :: aw_G
abbrev rm_Mo_feed8 : Room := { frames := 5, cells := 0, slots := 0, locals := 130 }
set_option maxHeartbeats 4000000 in
set_option maxRecDepth 100000 in
theorem k_Mo_feed8 (l : Launch) (D : va_G) (g : Nat → ClassId) (ad : Nat → Nat) (G M : Nat → Nat × Nat) (F : Int32) (N0 : Nat) (j : Nat) (bk : Int32) (k : Nat) (mm : Nat) (hj : j < 4) (hk : k + mm ≤ 64) (hs : (M j).1 = 3) (hm : (M j).2 ≤ 1) (hr8 : mm % 8 = 0) : Met l y_Mo_feed ws_Mo_feed8 rm_Mo_feed8 (va_Pc ([.ref (aw_m ad 0), .int (nI j), .int bk, .int (nI k), .int (nI mm)] : List Value) (aw_B D g ad G M F N0)) (va_Qi (fun r (_ : Unit) => True) (fun (_ : Unit) t => ∃ F' : Int32, aw_H D g ad G M F' N0 t.heap) (aw_Z N0)) 0 0 (aw_Z N0) := by
  refine Met.ofW (cc := b_Mo_feed) (maxL := 7) (ret := (some .int)) (by decide) rfl ?_
  intro p e s m args below meth c s₁ B hml hv
  obtain ⟨rfl, ⟨L, hP, hD, hSh⟩, hU⟩ := hv
  have hx := B.exec
  have hb := B.bytes
  have hr := B.returns
  have hG : ∀ w ∈ aw_G, w.before _ s = true := fun w h => atoms_spec (ws := ws_Mo_feed8) B.pre w (List.mem_cons_of_mem _ h)
  have hown : s.vm.findClass "RuleCiphersModel" = some m.cls := findClass_of_methodNamed B.named
  have hlocks := B.notSynchronized
  have hE := hU.1
  have hK := hE.1
  have hN := hE.2.1
  have hS : va_S (aw_Z N0) s.heap s.heap [] := va_S.rf
  have hl := lv_entry ([.ref (aw_m ad 0), .int (nI j), .int bk, .int (nI k), .int (nI mm)] : List Value) (n := 7) (Nat.le_of_ble_eq_true rfl)
  rw [lg_entry_eq]
  generalize (lg_sl ([.ref (aw_m ad 0), .int (nI j), .int bk, .int (nI k), .int (nI mm)] : List Value) ++ List.replicate (7 - (lg_sl ([.ref (aw_m ad 0), .int (nI j), .int bk, .int (nI k), .int (nI mm)] : List Value)).length) Slot.unset).toArray = ls at hl ⊢
  have hl : lv_has ls 7 [(0, .ref (aw_m ad 0)), (1, .int (nI j)), (2, .int bk), (3, .int (nI k)), (4, .int (nI mm))] := hl
  refine lv_iload_n hx hb d_Mo_feed_0 rfl (lv_at hl 1 rfl) ?_
  refine aw_ci ((va_runS (As := [.int (nI j)]) (rest := []) ⟨hx, hb, hml, hown, hG⟩ (k_Mo_isContext1 l j hj) (aw_wS 1 hG gw_10_34 gw_10_32 gw_0_10 gw_10_33 rfl rfl hd_Mo_isContext ⟨Nat.le_of_ble_eq_true rfl, Nat.le_of_ble_eq_true rfl⟩) aw_p0 rfl rfl hl.1 rfl (lv_room (Nat.le_of_ble_eq_true rfl)) d_Mo_feed_1 ⟨Nat.le_of_ble_eq_true rfl, Nat.le_of_ble_eq_true rfl⟩).run) (fun x1 hx1 => ?_)
  subst hx1
  refine lv_if_eq (tgt := 20) hx hb d_Mo_feed_4 (by decide) (fun h => absurd h (by decide +kernel)) (fun _ => ?_)
  refine lv_iload_n hx hb d_Mo_feed_7 rfl (lv_at hl 3 rfl) ?_
  refine lv_iload hx hb d_Mo_feed_8 (lv_at hl 4 rfl) ?_
  refine aw_ci ((va_runS (As := [.int (nI k), .int (nI mm)]) (rest := []) ⟨hx, hb, hml, hown, hG⟩ (k_Mo_isPart1 l k mm hk) (aw_wS 2 hG gw_12_29 gw_12_27 gw_0_10 gw_12_28 rfl rfl hd_Mo_isPart ⟨Nat.le_of_ble_eq_true rfl, Nat.le_of_ble_eq_true rfl⟩) aw_p0 rfl rfl hl.1 rfl (lv_room (Nat.le_of_ble_eq_true rfl)) d_Mo_feed_10 ⟨Nat.le_of_ble_eq_true rfl, Nat.le_of_ble_eq_true rfl⟩).run) (fun x2 hx2 => ?_)
  subst hx2
  refine lv_if_eq (tgt := 20) hx hb d_Mo_feed_13 (by decide) (fun h => absurd h (by decide +kernel)) (fun _ => ?_)
  refine lv_iconst (v := nI 1) hx hb d_Mo_feed_16 (by decide +kernel) ?_
  refine lv_goto (tgt := 21) hx hb d_Mo_feed_17 (by decide) ?_
  refine lv_istore hx hb d_Mo_feed_21 hl (by decide) rfl (fun ls hl => ?_)
  have hl : lv_has ls 7 [(5, .int (nI 1)), (0, .ref (aw_m ad 0)), (1, .int (nI j)), (2, .int bk), (3, .int (nI k)), (4, .int (nI mm))] := hl
  refine lv_aload_n hx hb d_Mo_feed_23 rfl (lv_at hl 1 rfl) ?_
  refine lv_iload hx hb d_Mo_feed_24 (lv_at hl 0 rfl) ?_
  refine lv_if_ne (tgt := 33) hx hb d_Mo_feed_26 (by decide) (fun _ => ?_) (fun h => absurd h (by decide +kernel))
  refine lv_aload_n hx hb d_Mo_feed_33 rfl (lv_at hl 1 rfl) ?_
  obtain ⟨x4, o5, hw6, he3⟩ := rd_M0 hSh
  refine va_get (C := R_Mo) (T := T_Mo) (N := 19) (v := .ref (aw_m ad 2)) hx hb hG in_Mo hown hK hP 67 he3 rfl 2 (by decide) (hG _ gw_9_27) (fun _ h => h) rfl d_Mo_feed_34 ?_
  refine lv_iload_n hx hb d_Mo_feed_37 rfl (lv_at hl 2 rfl) ?_
  obtain ⟨f8, hc9, he7⟩ := rd_M2 hSh
  refine aw_ild hx hb hK hP 69 0 he7 rfl (k := j) (by omega) (by decide) d_Mo_feed_38 ?_
  refine aw_ti (y := nI (M j).1) (hc9 _ (by omega)) ?_
  have hm := hSh.2.2.2.2.2 j (by omega)
  refine lv_iconst (v := nI 3) hx hb d_Mo_feed_39 (by decide +kernel) ?_
  refine lv_icmp_ne (tgt := 53) hx hb d_Mo_feed_40 (by decide) (fun h => absurd (show nI ((M j).1) = nI 3 from (nI_eq (by omega) (by omega)).mpr (by omega)) h) (fun _ => ?_)
  refine lv_aload_n hx hb d_Mo_feed_43 rfl (lv_at hl 1 rfl) ?_
  obtain ⟨x11, o12, hw13, he10⟩ := rd_M0 hSh
  refine va_get (C := R_Mo) (T := T_Mo) (N := 19) (v := .ref (aw_m ad 6)) hx hb hG in_Mo hown hK hP 67 he10 rfl 6 (by decide) (hG _ gw_9_31) (fun _ h => h) rfl d_Mo_feed_44 ?_
  refine lv_iload_n hx hb d_Mo_feed_47 rfl (lv_at hl 2 rfl) ?_
  obtain ⟨f15, hc16, he14⟩ := rd_M6 hSh
  refine aw_ild hx hb hK hP 73 0 he14 rfl (k := j) (by omega) (by decide) d_Mo_feed_48 ?_
  refine aw_ti (y := nI (M j).2) (hc16 _ (by omega)) ?_
  have hm := hSh.2.2.2.2.2 j (by omega)
  refine lv_iconst (v := nI 5) hx hb d_Mo_feed_49 (by decide +kernel) ?_
  refine lv_icmp_ne (tgt := 57) hx hb d_Mo_feed_50 (by decide) (fun _ => ?_) (fun h => absurd h (show ¬ nI ((M j).2) = nI 5 from fun h9 => absurd ((nI_eq (by omega) (by omega)).mp h9) (by omega)))
  refine lv_aload_n hx hb d_Mo_feed_57 rfl (lv_at hl 1 rfl) ?_
  obtain ⟨x18, o19, hw20, he17⟩ := rd_M0 hSh
  refine va_get (C := R_Mo) (T := T_Mo) (N := 19) (v := .ref (aw_m ad 6)) hx hb hG in_Mo hown hK hP 67 he17 rfl 6 (by decide) (hG _ gw_9_31) (fun _ h => h) rfl d_Mo_feed_58 ?_
  refine lv_iload_n hx hb d_Mo_feed_61 rfl (lv_at hl 2 rfl) ?_
  obtain ⟨f22, hc23, he21⟩ := rd_M6 hSh
  refine aw_ild hx hb hK hP 73 0 he21 rfl (k := j) (by omega) (by decide) d_Mo_feed_62 ?_
  refine aw_ti (y := nI (M j).2) (hc23 _ (by omega)) ?_
  have hm := hSh.2.2.2.2.2 j (by omega)
  refine lv_iconst (v := nI 2) hx hb d_Mo_feed_63 (by decide +kernel) ?_
  refine lv_icmp_ge (tgt := 79) hx hb d_Mo_feed_64 (by decide) (fun h => absurd h (show ¬ nI 2 ≤ nI ((M j).2) from fun h9 => absurd ((nI_leI (by omega) (by omega)).mp h9) (by omega))) (fun _ => ?_)
  refine lv_iload hx hb d_Mo_feed_67 (lv_at hl 5 rfl) ?_
  refine lv_bipush (v := nI 8) hx hb d_Mo_feed_69 (by decide +kernel) ?_
  refine lv_irem hx hb d_Mo_feed_71 (by decide +kernel) ?_
  refine aw_ti (pk_rem (a := mm) (d := 8) (by omega) (by omega) (by omega)) ?_
  refine lv_if_eq (tgt := 79) hx hb d_Mo_feed_72 (by decide) (fun _ => ?_) (fun h => absurd (show nI (mm % 8) = nI 0 from (nI_eq (by omega) (by omega)).mpr (by omega)) h)
  refine lv_iconst (v := nI 0) hx hb d_Mo_feed_79 (by decide +kernel) ?_
  obtain ⟨_, _, _, he24⟩ := rd_M0 hSh
  refine va_calli (va_runV (As := [.int (nI 0)]) (rest := []) ⟨hx, hb, hml, hown, hG⟩ (k_Mo_refused0 l D g ad G M F N0) (aw_wV 1 hG gw_10_37 gw_10_35 gw_0_10 gw_10_36 gw_p_9 rfl rfl hd_Mo_refused ⟨Nat.le_of_ble_eq_true rfl, Nat.le_of_ble_eq_true rfl⟩) (aw_qV (va_recv hK hP rfl he24) hP hD hSh hU hS) rfl rfl hl.1 rfl (lv_room (Nat.le_of_ble_eq_true rfl)) d_Mo_feed_80 ⟨Nat.le_of_ble_eq_true rfl, Nat.le_of_ble_eq_true rfl⟩) hS (fun _ _ h => h) (fun _ h => h) (fun x25 u8 t8 H locs ht _ hpx25 hB _ _ hS => ?_)
  obtain ⟨L, hP, hD, hSh⟩ := hB
  rw [ht] at hP
  clear ht
  subst hpx25
  refine lv_if_eq (tgt := 88) hx hb d_Mo_feed_83 (by decide) (fun _ => ?_) (fun h => absurd (by decide +kernel) h)
  refine lv_aload_n hx hb d_Mo_feed_88 rfl (lv_at hl 1 rfl) ?_
  refine lv_iload_n hx hb d_Mo_feed_89 rfl (lv_at hl 2 rfl) ?_
  obtain ⟨_, _, _, he26⟩ := rd_M0 hSh
  refine va_callv (va_runV (As := [.int (nI j)]) (rest := []) ⟨hx, hb, hml, hown, hG⟩ (k_Mo_prepare l D g ad G M (nI 0) N0 j hj) (aw_wV 1 hG gw_11_6 gw_11_4 gw_0_10 gw_11_5 gw_p_12 rfl rfl hd_Mo_prepare ⟨Nat.le_of_ble_eq_true rfl, Nat.le_of_ble_eq_true rfl⟩) (aw_qV (va_recv hK hP rfl he26) hP hD hSh hU hS) rfl rfl hl.1 rfl (lv_room (Nat.le_of_ble_eq_true rfl)) d_Mo_feed_90 ⟨Nat.le_of_ble_eq_true rfl, Nat.le_of_ble_eq_true rfl⟩) hS (fun _ _ h => h) (fun _ h => h) (fun u8 t8 H locs ht _ _ hB _ _ hS => ?_)
  obtain ⟨L, hP, hD, hSh⟩ := hB
  rw [ht] at hP
  clear ht
  refine lv_iconst (v := nI 0) hx hb d_Mo_feed_93 (by decide +kernel) ?_
  refine lv_istore hx hb d_Mo_feed_94 hl (by decide) rfl (fun ls hl => ?_)
  have hl : lv_has ls 7 [(6, .int (nI 0)), (5, .int (nI 1)), (0, .ref (aw_m ad 0)), (1, .int (nI j)), (2, .int bk), (3, .int (nI k)), (4, .int (nI mm))] := hl
  have L96 : ∀ (d t : Nat)  (H : Heap) (locs : List Loc) (L : va_W) (ls : Array Slot), t + d = mm → va_P D aw_C L H → va_D (aw_Z N0) L → aw_Sh g ad G M (nI 0) L → va_S (aw_Z N0) s.heap H locs → lv_has ls 7 [(0, .ref (aw_m ad 0)), (1, .int (nI j)), (2, .int bk), (3, .int (nI k)), (4, .int (nI mm)), (5, .int (nI 1)), (6, .int (nI t))] → W p l e (headSpec ws_Mo_feed8 rm_Mo_feed8).room s m ([.ref (aw_m ad 0), .int (nI j), .int bk, .int (nI k), .int (nI mm)] : List Value).toArray below meth c H locs 0 0 (MQ below (va_Qi (fun r (_ : Unit) => True) (fun (_ : Unit) t => ∃ F' : Int32, aw_H D g ad G M F' N0 t.heap) (aw_Z N0)) ([.ref (aw_m ad 0), .int (nI j), .int bk, .int (nI k), .int (nI mm)] : List Value).toArray s 0 0 (aw_Z N0)) (F0 m 96 ls []) := by
    clear hP hD hSh hS
    clear hl
    intro d
    induction d with
    | zero => 
      intro t  H locs L ls ht0 hP hD hSh hS hl
      refine lv_iload hx hb d_Mo_feed_96 (lv_at hl 6 rfl) ?_
      refine lv_iload hx hb d_Mo_feed_98 (lv_at hl 4 rfl) ?_
      refine lv_icmp_ge (tgt := 150) hx hb d_Mo_feed_100 (by decide) (fun _ => ?_) (fun h => absurd (show nI mm ≤ nI t from (nI_leI (by omega) (by omega)).mpr (by omega)) h)
      refine lv_aload_n hx hb d_Mo_feed_150 rfl (lv_at hl 0 rfl) ?_
      obtain ⟨x28, o29, hw30, he27⟩ := rd_M0 hSh
      refine va_get (C := R_Mo) (T := T_Mo) (N := 19) (v := .ref (aw_m ad 10)) hx hb hG in_Mo hown hK hP 67 he27 rfl 10 (by decide) (hG _ gw_9_35) (fun _ h => h) rfl d_Mo_feed_151 ?_
      refine lv_iload_n hx hb d_Mo_feed_154 rfl (lv_at hl 1 rfl) ?_
      refine lv_aload_n hx hb d_Mo_feed_155 rfl (lv_at hl 0 rfl) ?_
      obtain ⟨x32, o33, hw34, he31⟩ := rd_M0 hSh
      refine va_get (C := R_Mo) (T := T_Mo) (N := 19) (v := .ref (aw_m ad 10)) hx hb hG in_Mo hown hK hP 67 he31 rfl 10 (by decide) (hG _ gw_9_35) (fun _ h => h) rfl d_Mo_feed_156 ?_
      refine lv_iload_n hx hb d_Mo_feed_159 rfl (lv_at hl 1 rfl) ?_
      obtain ⟨f36, he35⟩ := rd_M10 hSh
      refine aw_ild hx hb hK hP 77 0 he35 rfl (k := j) (by omega) (by decide) d_Mo_feed_160 ?_
      refine lv_topi (fun x37 _ => ?_)
      refine lv_iload hx hb d_Mo_feed_161 (lv_at hl 4 rfl) ?_
      refine lv_iadd hx hb d_Mo_feed_163 ?_
      refine lv_topi (fun x38 _ => ?_)
      obtain ⟨f40, he39⟩ := rd_M10 hSh
      refine aw_istI hx hb hK hP hD hS 77 0 he39 rfl (k := j) (by omega) (by decide) d_Mo_feed_164 (wr_M10 hSh _) (fun H locs L hP hD hSh hS => ?_)
      refine lv_aload_n hx hb d_Mo_feed_165 rfl (lv_at hl 0 rfl) ?_
      obtain ⟨x42, o43, hw44, he41⟩ := rd_M0 hSh
      refine va_get (C := R_Mo) (T := T_Mo) (N := 19) (v := .ref (aw_m ad 10)) hx hb hG in_Mo hown hK hP 67 he41 rfl 10 (by decide) (hG _ gw_9_35) (fun _ h => h) rfl d_Mo_feed_166 ?_
      refine lv_iload_n hx hb d_Mo_feed_169 rfl (lv_at hl 1 rfl) ?_
      obtain ⟨f46, he45⟩ := rd_M10 hSh
      refine aw_ild hx hb hK hP 77 0 he45 rfl (k := j) (by omega) (by decide) d_Mo_feed_170 ?_
      refine lv_topi (fun x47 _ => ?_)
      exact W.iret hx hb hr (fun t ht hW => ⟨⟨_, (), rfl, trivial, ⟨_, aw_Hr ht hP hD hSh⟩⟩, hS.F ht⟩) hS.2.2 d_Mo_feed_171
    | succ d ih => 
      intro t  H locs L ls ht0 hP hD hSh hS hl
      refine lv_iload hx hb d_Mo_feed_96 (lv_at hl 6 rfl) ?_
      refine lv_iload hx hb d_Mo_feed_98 (lv_at hl 4 rfl) ?_
      refine lv_icmp_ge (tgt := 150) hx hb d_Mo_feed_100 (by decide) (fun h => absurd h (show ¬ nI mm ≤ nI t from fun h9 => absurd ((nI_leI (by omega) (by omega)).mp h9) (by omega))) (fun _ => ?_)
      refine lv_aload_n hx hb d_Mo_feed_103 rfl (lv_at hl 0 rfl) ?_
      obtain ⟨x49, o50, hw51, he48⟩ := rd_M0 hSh
      refine va_get (C := R_Mo) (T := T_Mo) (N := 19) (v := .ref (aw_m ad 6)) hx hb hG in_Mo hown hK hP 67 he48 rfl 6 (by decide) (hG _ gw_9_31) (fun _ h => h) rfl d_Mo_feed_104 ?_
      refine lv_iload_n hx hb d_Mo_feed_107 rfl (lv_at hl 1 rfl) ?_
      obtain ⟨f53, hc54, he52⟩ := rd_M6 hSh
      refine aw_ild hx hb hK hP 73 0 he52 rfl (k := j) (by omega) (by decide) d_Mo_feed_108 ?_
      refine aw_ti (y := nI (M j).2) (hc54 _ (by omega)) ?_
      have hm := hSh.2.2.2.2.2 j (by omega)
      refine lv_iconst (v := nI 1) hx hb d_Mo_feed_109 (by decide +kernel) ?_
      refine lv_icmp_le (tgt := 126) hx hb d_Mo_feed_110 (by decide) (fun _ => ?_) (fun h => absurd (show nI ((M j).2) ≤ nI 1 from (nI_leI (by omega) (by omega)).mpr (by omega)) h)
      refine lv_iload hx hb d_Mo_feed_126 (lv_at hl 6 rfl) ?_
      refine lv_bipush (v := nI 8) hx hb d_Mo_feed_128 (by decide +kernel) ?_
      refine lv_irem hx hb d_Mo_feed_130 (by decide +kernel) ?_
      refine aw_ti (pk_rem (a := t) (d := 8) (by omega) (by omega) (by omega)) ?_
      refine lv_if_ne (tgt := 144) hx hb d_Mo_feed_131 (by decide) (fun hb55 => ?_) (fun hb55 => ?_)
      · have hb55 : ¬ t % 8 = 0 := fun z => absurd ((nI_eq (by omega) (by omega)).mpr z) (show ¬ nI (t % 8) = nI 0 from hb55)
        refine lv_iinc (k := 6) (v := nI (t + 1)) hx hb d_Mo_feed_144 hl rfl (aw_inc t 1 1 (by decide +kernel)) (by decide) rfl (fun ls hl => ?_)
        have hl : lv_has ls 7 [(6, .int (nI (t + 1))), (0, .ref (aw_m ad 0)), (1, .int (nI j)), (2, .int bk), (3, .int (nI k)), (4, .int (nI mm)), (5, .int (nI 1))] := hl
        refine lv_goto (tgt := 96) hx hb d_Mo_feed_147 (by decide) ?_
        have hl := lv_sub hl (l' := [(0, .ref (aw_m ad 0)), (1, .int (nI j)), (2, .int bk), (3, .int (nI k)), (4, .int (nI mm)), (5, .int (nI 1)), (6, .int (nI (t + 1)))]) [1, 2, 3, 4, 5, 6, 0] rfl
        exact ih (t + 1)  H locs L ls (by omega) hP hD hSh hS (by first | exact hl | simpa [Nat.add_assoc, Nat.mul_add, Nat.add_comm] using hl)
      · have hb55 : t % 8 = 0 := (nI_eq (by omega) (by omega)).mp (show nI (t % 8) = nI 0 from hb55)
        refine lv_aload_n hx hb d_Mo_feed_134 rfl (lv_at hl 0 rfl) ?_
        refine lv_iload_n hx hb d_Mo_feed_135 rfl (lv_at hl 1 rfl) ?_
        refine lv_iload_n hx hb d_Mo_feed_136 rfl (lv_at hl 2 rfl) ?_
        refine lv_iload_n hx hb d_Mo_feed_137 rfl (lv_at hl 3 rfl) ?_
        refine lv_iload hx hb d_Mo_feed_138 (lv_at hl 6 rfl) ?_
        refine lv_iadd hx hb d_Mo_feed_140 ?_
        refine aw_ti (nI_add k t) ?_
        obtain ⟨_, _, _, he56⟩ := rd_M0 hSh
        refine va_callv (va_runV (As := [.int (nI j), .int bk, .int (nI (k + t))]) (rest := []) ⟨hx, hb, hml, hown, hG⟩ (k_Mo_feedBlock l D g ad G M (nI 0) N0 j bk (k + t) hj (by omega)) (aw_wV 3 hG gw_12_35 gw_12_33 gw_0_10 gw_12_34 gw_p_21 rfl rfl hd_Mo_feedBlock ⟨Nat.le_of_ble_eq_true rfl, Nat.le_of_ble_eq_true rfl⟩) (aw_qV (va_recv hK hP rfl he56) hP hD hSh hU hS) rfl rfl hl.1 rfl (lv_room (Nat.le_of_ble_eq_true rfl)) d_Mo_feed_141 ⟨Nat.le_of_ble_eq_true rfl, Nat.le_of_ble_eq_true rfl⟩) hS (fun _ _ h => h) (fun _ h => h) (fun u8 t8 H locs ht _ _ hB _ _ hS => ?_)
        obtain ⟨L, hP, hD, hSh⟩ := hB
        rw [ht] at hP
        clear ht
        refine lv_iinc (k := 6) (v := nI (t + 1)) hx hb d_Mo_feed_144 hl rfl (aw_inc t 1 1 (by decide +kernel)) (by decide) rfl (fun ls hl => ?_)
        have hl : lv_has ls 7 [(6, .int (nI (t + 1))), (0, .ref (aw_m ad 0)), (1, .int (nI j)), (2, .int bk), (3, .int (nI k)), (4, .int (nI mm)), (5, .int (nI 1))] := hl
        refine lv_goto (tgt := 96) hx hb d_Mo_feed_147 (by decide) ?_
        have hl := lv_sub hl (l' := [(0, .ref (aw_m ad 0)), (1, .int (nI j)), (2, .int bk), (3, .int (nI k)), (4, .int (nI mm)), (5, .int (nI 1)), (6, .int (nI (t + 1)))]) [1, 2, 3, 4, 5, 6, 0] rfl
        exact ih (t + 1)  H locs L ls (by omega) hP hD hSh hS (by first | exact hl | simpa [Nat.add_assoc, Nat.mul_add, Nat.add_comm] using hl)
  have hl := lv_sub hl (l' := [(0, .ref (aw_m ad 0)), (1, .int (nI j)), (2, .int bk), (3, .int (nI k)), (4, .int (nI mm)), (5, .int (nI 1)), (6, .int (nI 0))]) [2, 3, 4, 5, 6, 1, 0] rfl
  exact L96 mm 0  _ _ _ ls (by omega) hP hD hSh hS (by first | exact hl | simpa using hl)
abbrev ws_Mo_takeXc : List Cond := Cond.code y_Mo_take b_Mo_take 6 (some .int) :: aw_G
abbrev rm_Mo_takeXc : Room := { frames := 4, cells := 0, slots := 0, locals := 94 }
set_option maxHeartbeats 4000000 in
set_option maxRecDepth 100000 in
theorem k_Mo_takeXc (l : Launch) (D : va_G) (g : Nat → ClassId) (ad : Nat → Nat) (G M : Nat → Nat × Nat) (F : Int32) (N0 : Nat) (c0 : Int32) (fr : Int32) (m0 : Int32) (hc : c0 < 0 ∨ (¬ c0 < 0 ∧ ¬ c0 < nI 4)) : Met l y_Mo_take ws_Mo_takeXc rm_Mo_takeXc (va_Pc ([.ref (aw_m ad 0), .int c0, .int fr, .int m0] : List Value) (aw_B D g ad G M F N0)) (va_Qi (fun r (_ : Unit) => True) (fun (_ : Unit) t => ∃ F' : Int32, aw_H D g ad G M F' N0 t.heap) (aw_Z N0)) 0 0 (aw_Z N0) := by
  refine Met.ofW (cc := b_Mo_take) (maxL := 6) (ret := (some .int)) (by decide) rfl ?_
  intro p e s m args below meth c s₁ B hml hv
  obtain ⟨rfl, ⟨L, hP, hD, hSh⟩, hU⟩ := hv
  have hx := B.exec
  have hb := B.bytes
  have hr := B.returns
  have hG : ∀ w ∈ aw_G, w.before _ s = true := fun w h => atoms_spec (ws := ws_Mo_takeXc) B.pre w (List.mem_cons_of_mem _ h)
  have hown : s.vm.findClass "RuleCiphersModel" = some m.cls := findClass_of_methodNamed B.named
  have hlocks := B.notSynchronized
  have hE := hU.1
  have hK := hE.1
  have hN := hE.2.1
  have hS : va_S (aw_Z N0) s.heap s.heap [] := va_S.rf
  have hl := lv_entry ([.ref (aw_m ad 0), .int c0, .int fr, .int m0] : List Value) (n := 6) (Nat.le_of_ble_eq_true rfl)
  rw [lg_entry_eq]
  generalize (lg_sl ([.ref (aw_m ad 0), .int c0, .int fr, .int m0] : List Value) ++ List.replicate (6 - (lg_sl ([.ref (aw_m ad 0), .int c0, .int fr, .int m0] : List Value)).length) Slot.unset).toArray = ls at hl ⊢
  have hl : lv_has ls 6 [(0, .ref (aw_m ad 0)), (1, .int c0), (2, .int fr), (3, .int m0)] := hl
  refine lv_iload_n hx hb d_Mo_take_0 rfl (lv_at hl 1 rfl) ?_
  refine aw_ci ((va_runS (As := [.int c0]) (rest := []) ⟨hx, hb, hml, hown, hG⟩ (k_Mo_isContext0 l c0 hc) (aw_wS 1 hG gw_10_34 gw_10_32 gw_0_10 gw_10_33 rfl rfl hd_Mo_isContext ⟨Nat.le_of_ble_eq_true rfl, Nat.le_of_ble_eq_true rfl⟩) aw_p0 rfl rfl hl.1 rfl (lv_room (Nat.le_of_ble_eq_true rfl)) d_Mo_take_1 ⟨Nat.le_of_ble_eq_true rfl, Nat.le_of_ble_eq_true rfl⟩).run) (fun x1 hx1 => ?_)
  subst hx1
  refine lv_if_eq (tgt := 19) hx hb d_Mo_take_4 (by decide) (fun _ => ?_) (fun h => absurd (by decide +kernel) h)
  refine lv_iconst (v := nI 0) hx hb d_Mo_take_19 (by decide +kernel) ?_
  refine lv_istore hx hb d_Mo_take_20 hl (by decide) rfl (fun ls hl => ?_)
  have hl : lv_has ls 6 [(4, .int (nI 0)), (0, .ref (aw_m ad 0)), (1, .int c0), (2, .int fr), (3, .int m0)] := hl
  refine lv_aload_n hx hb d_Mo_take_22 rfl (lv_at hl 1 rfl) ?_
  refine lv_iload hx hb d_Mo_take_23 (lv_at hl 0 rfl) ?_
  refine lv_if_ne (tgt := 32) hx hb d_Mo_take_25 (by decide) (fun h => absurd (by decide +kernel) h) (fun _ => ?_)
  refine lv_iconst (v := nI 1) hx hb d_Mo_take_28 (by decide +kernel) ?_
  refine lv_goto (tgt := 37) hx hb d_Mo_take_29 (by decide) ?_
  obtain ⟨_, _, _, he2⟩ := rd_M0 hSh
  refine va_calli (va_runV (As := [.int (nI 1)]) (rest := []) ⟨hx, hb, hml, hown, hG⟩ (k_Mo_refused1 l D g ad G M F N0 1 (by omega)) (aw_wV 1 hG gw_10_37 gw_10_35 gw_0_10 gw_10_36 gw_p_9 rfl rfl hd_Mo_refused ⟨Nat.le_of_ble_eq_true rfl, Nat.le_of_ble_eq_true rfl⟩) (aw_qV (va_recv hK hP rfl he2) hP hD hSh hU hS) rfl rfl hl.1 rfl (lv_room (Nat.le_of_ble_eq_true rfl)) d_Mo_take_37 ⟨Nat.le_of_ble_eq_true rfl, Nat.le_of_ble_eq_true rfl⟩) hS (fun _ _ h => h) (fun _ h => h) (fun x3 u8 t8 H locs ht _ hpx3 hB _ _ hS => ?_)
  obtain ⟨L, hP, hD, hSh⟩ := hB
  rw [ht] at hP
  clear ht
  subst hpx3
  refine lv_if_eq (tgt := 45) hx hb d_Mo_take_40 (by decide) (fun h => absurd h (by decide +kernel)) (fun _ => ?_)
  refine lv_iconst (v := nI 0) hx hb d_Mo_take_43 (by decide +kernel) ?_
  exact W.iret hx hb hr (fun t ht hW => ⟨⟨_, (), rfl, trivial, ⟨_, aw_Hr ht hP hD hSh⟩⟩, hS.F ht⟩) hS.2.2 d_Mo_take_44
abbrev ws_Mo_takeXb : List Cond := Cond.code y_Mo_take b_Mo_take 6 (some .int) :: aw_G
abbrev rm_Mo_takeXb : Room := { frames := 4, cells := 0, slots := 0, locals := 94 }
set_option maxHeartbeats 4000000 in
set_option maxRecDepth 100000 in
theorem k_Mo_takeXb (l : Launch) (D : va_G) (g : Nat → ClassId) (ad : Nat → Nat) (G M : Nat → Nat × Nat) (F : Int32) (N0 : Nat) (j : Nat) (fr : Int32) (m0 : Int32) (hj : j < 4) (hi : fr < 0 ∨ (¬ fr < 0 ∧ m0 < 0) ∨ (¬ fr < 0 ∧ ¬ m0 < 0 ∧ nI 64 < fr) ∨ (¬ fr < 0 ∧ ¬ m0 < 0 ∧ ¬ nI 64 < fr ∧ nI 64 - fr < m0)) : Met l y_Mo_take ws_Mo_takeXb rm_Mo_takeXb (va_Pc ([.ref (aw_m ad 0), .int (nI j), .int fr, .int m0] : List Value) (aw_B D g ad G M F N0)) (va_Qi (fun r (_ : Unit) => True) (fun (_ : Unit) t => ∃ F' : Int32, aw_H D g ad G M F' N0 t.heap) (aw_Z N0)) 0 0 (aw_Z N0) := by
  refine Met.ofW (cc := b_Mo_take) (maxL := 6) (ret := (some .int)) (by decide) rfl ?_
  intro p e s m args below meth c s₁ B hml hv
  obtain ⟨rfl, ⟨L, hP, hD, hSh⟩, hU⟩ := hv
  have hx := B.exec
  have hb := B.bytes
  have hr := B.returns
  have hG : ∀ w ∈ aw_G, w.before _ s = true := fun w h => atoms_spec (ws := ws_Mo_takeXb) B.pre w (List.mem_cons_of_mem _ h)
  have hown : s.vm.findClass "RuleCiphersModel" = some m.cls := findClass_of_methodNamed B.named
  have hlocks := B.notSynchronized
  have hE := hU.1
  have hK := hE.1
  have hN := hE.2.1
  have hS : va_S (aw_Z N0) s.heap s.heap [] := va_S.rf
  have hl := lv_entry ([.ref (aw_m ad 0), .int (nI j), .int fr, .int m0] : List Value) (n := 6) (Nat.le_of_ble_eq_true rfl)
  rw [lg_entry_eq]
  generalize (lg_sl ([.ref (aw_m ad 0), .int (nI j), .int fr, .int m0] : List Value) ++ List.replicate (6 - (lg_sl ([.ref (aw_m ad 0), .int (nI j), .int fr, .int m0] : List Value)).length) Slot.unset).toArray = ls at hl ⊢
  have hl : lv_has ls 6 [(0, .ref (aw_m ad 0)), (1, .int (nI j)), (2, .int fr), (3, .int m0)] := hl
  refine lv_iload_n hx hb d_Mo_take_0 rfl (lv_at hl 1 rfl) ?_
  refine aw_ci ((va_runS (As := [.int (nI j)]) (rest := []) ⟨hx, hb, hml, hown, hG⟩ (k_Mo_isContext1 l j hj) (aw_wS 1 hG gw_10_34 gw_10_32 gw_0_10 gw_10_33 rfl rfl hd_Mo_isContext ⟨Nat.le_of_ble_eq_true rfl, Nat.le_of_ble_eq_true rfl⟩) aw_p0 rfl rfl hl.1 rfl (lv_room (Nat.le_of_ble_eq_true rfl)) d_Mo_take_1 ⟨Nat.le_of_ble_eq_true rfl, Nat.le_of_ble_eq_true rfl⟩).run) (fun x1 hx1 => ?_)
  subst hx1
  refine lv_if_eq (tgt := 19) hx hb d_Mo_take_4 (by decide) (fun h => absurd h (by decide +kernel)) (fun _ => ?_)
  refine lv_iload_n hx hb d_Mo_take_7 rfl (lv_at hl 2 rfl) ?_
  refine lv_iload_n hx hb d_Mo_take_8 rfl (lv_at hl 3 rfl) ?_
  refine aw_ci ((va_runS (As := [.int fr, .int m0]) (rest := []) ⟨hx, hb, hml, hown, hG⟩ (k_Mo_isPart0 l fr m0 hi) (aw_wS 2 hG gw_12_29 gw_12_27 gw_0_10 gw_12_28 rfl rfl hd_Mo_isPart ⟨Nat.le_of_ble_eq_true rfl, Nat.le_of_ble_eq_true rfl⟩) aw_p0 rfl rfl hl.1 rfl (lv_room (Nat.le_of_ble_eq_true rfl)) d_Mo_take_9 ⟨Nat.le_of_ble_eq_true rfl, Nat.le_of_ble_eq_true rfl⟩).run) (fun x2 hx2 => ?_)
  subst hx2
  refine lv_if_eq (tgt := 19) hx hb d_Mo_take_12 (by decide) (fun _ => ?_) (fun h => absurd (by decide +kernel) h)
  refine lv_iconst (v := nI 0) hx hb d_Mo_take_19 (by decide +kernel) ?_
  refine lv_istore hx hb d_Mo_take_20 hl (by decide) rfl (fun ls hl => ?_)
  have hl : lv_has ls 6 [(4, .int (nI 0)), (0, .ref (aw_m ad 0)), (1, .int (nI j)), (2, .int fr), (3, .int m0)] := hl
  refine lv_aload_n hx hb d_Mo_take_22 rfl (lv_at hl 1 rfl) ?_
  refine lv_iload hx hb d_Mo_take_23 (lv_at hl 0 rfl) ?_
  refine lv_if_ne (tgt := 32) hx hb d_Mo_take_25 (by decide) (fun h => absurd (by decide +kernel) h) (fun _ => ?_)
  refine lv_iconst (v := nI 1) hx hb d_Mo_take_28 (by decide +kernel) ?_
  refine lv_goto (tgt := 37) hx hb d_Mo_take_29 (by decide) ?_
  obtain ⟨_, _, _, he3⟩ := rd_M0 hSh
  refine va_calli (va_runV (As := [.int (nI 1)]) (rest := []) ⟨hx, hb, hml, hown, hG⟩ (k_Mo_refused1 l D g ad G M F N0 1 (by omega)) (aw_wV 1 hG gw_10_37 gw_10_35 gw_0_10 gw_10_36 gw_p_9 rfl rfl hd_Mo_refused ⟨Nat.le_of_ble_eq_true rfl, Nat.le_of_ble_eq_true rfl⟩) (aw_qV (va_recv hK hP rfl he3) hP hD hSh hU hS) rfl rfl hl.1 rfl (lv_room (Nat.le_of_ble_eq_true rfl)) d_Mo_take_37 ⟨Nat.le_of_ble_eq_true rfl, Nat.le_of_ble_eq_true rfl⟩) hS (fun _ _ h => h) (fun _ h => h) (fun x4 u8 t8 H locs ht _ hpx4 hB _ _ hS => ?_)
  obtain ⟨L, hP, hD, hSh⟩ := hB
  rw [ht] at hP
  clear ht
  subst hpx4
  refine lv_if_eq (tgt := 45) hx hb d_Mo_take_40 (by decide) (fun h => absurd h (by decide +kernel)) (fun _ => ?_)
  refine lv_iconst (v := nI 0) hx hb d_Mo_take_43 (by decide +kernel) ?_
  exact W.iret hx hb hr (fun t ht hW => ⟨⟨_, (), rfl, trivial, ⟨_, aw_Hr ht hP hD hSh⟩⟩, hS.F ht⟩) hS.2.2 d_Mo_take_44
abbrev ws_Mo_takeXs : List Cond := Cond.code y_Mo_take b_Mo_take 6 (some .int) :: aw_G
abbrev rm_Mo_takeXs : Room := { frames := 4, cells := 0, slots := 0, locals := 94 }
set_option maxHeartbeats 4000000 in
set_option maxRecDepth 100000 in
theorem k_Mo_takeXs (l : Launch) (D : va_G) (g : Nat → ClassId) (ad : Nat → Nat) (G M : Nat → Nat × Nat) (F : Int32) (N0 : Nat) (j : Nat) (k : Nat) (mm : Nat) (hj : j < 4) (hk : k + mm ≤ 64) (hs : (M j).1 ≤ 2 ∨ ((M j).1 = 3 ∧ (M j).2 ≠ 5)) : Met l y_Mo_take ws_Mo_takeXs rm_Mo_takeXs (va_Pc ([.ref (aw_m ad 0), .int (nI j), .int (nI k), .int (nI mm)] : List Value) (aw_B D g ad G M F N0)) (va_Qi (fun r (_ : Unit) => True) (fun (_ : Unit) t => ∃ F' : Int32, aw_H D g ad G M F' N0 t.heap) (aw_Z N0)) 0 0 (aw_Z N0) := by
  refine Met.ofW (cc := b_Mo_take) (maxL := 6) (ret := (some .int)) (by decide) rfl ?_
  intro p e s m args below meth c s₁ B hml hv
  obtain ⟨rfl, ⟨L, hP, hD, hSh⟩, hU⟩ := hv
  have hx := B.exec
  have hb := B.bytes
  have hr := B.returns
  have hG : ∀ w ∈ aw_G, w.before _ s = true := fun w h => atoms_spec (ws := ws_Mo_takeXs) B.pre w (List.mem_cons_of_mem _ h)
  have hown : s.vm.findClass "RuleCiphersModel" = some m.cls := findClass_of_methodNamed B.named
  have hlocks := B.notSynchronized
  have hE := hU.1
  have hK := hE.1
  have hN := hE.2.1
  have hS : va_S (aw_Z N0) s.heap s.heap [] := va_S.rf
  have hl := lv_entry ([.ref (aw_m ad 0), .int (nI j), .int (nI k), .int (nI mm)] : List Value) (n := 6) (Nat.le_of_ble_eq_true rfl)
  rw [lg_entry_eq]
  generalize (lg_sl ([.ref (aw_m ad 0), .int (nI j), .int (nI k), .int (nI mm)] : List Value) ++ List.replicate (6 - (lg_sl ([.ref (aw_m ad 0), .int (nI j), .int (nI k), .int (nI mm)] : List Value)).length) Slot.unset).toArray = ls at hl ⊢
  have hl : lv_has ls 6 [(0, .ref (aw_m ad 0)), (1, .int (nI j)), (2, .int (nI k)), (3, .int (nI mm))] := hl
  refine lv_iload_n hx hb d_Mo_take_0 rfl (lv_at hl 1 rfl) ?_
  refine aw_ci ((va_runS (As := [.int (nI j)]) (rest := []) ⟨hx, hb, hml, hown, hG⟩ (k_Mo_isContext1 l j hj) (aw_wS 1 hG gw_10_34 gw_10_32 gw_0_10 gw_10_33 rfl rfl hd_Mo_isContext ⟨Nat.le_of_ble_eq_true rfl, Nat.le_of_ble_eq_true rfl⟩) aw_p0 rfl rfl hl.1 rfl (lv_room (Nat.le_of_ble_eq_true rfl)) d_Mo_take_1 ⟨Nat.le_of_ble_eq_true rfl, Nat.le_of_ble_eq_true rfl⟩).run) (fun x1 hx1 => ?_)
  subst hx1
  refine lv_if_eq (tgt := 19) hx hb d_Mo_take_4 (by decide) (fun h => absurd h (by decide +kernel)) (fun _ => ?_)
  refine lv_iload_n hx hb d_Mo_take_7 rfl (lv_at hl 2 rfl) ?_
  refine lv_iload_n hx hb d_Mo_take_8 rfl (lv_at hl 3 rfl) ?_
  refine aw_ci ((va_runS (As := [.int (nI k), .int (nI mm)]) (rest := []) ⟨hx, hb, hml, hown, hG⟩ (k_Mo_isPart1 l k mm hk) (aw_wS 2 hG gw_12_29 gw_12_27 gw_0_10 gw_12_28 rfl rfl hd_Mo_isPart ⟨Nat.le_of_ble_eq_true rfl, Nat.le_of_ble_eq_true rfl⟩) aw_p0 rfl rfl hl.1 rfl (lv_room (Nat.le_of_ble_eq_true rfl)) d_Mo_take_9 ⟨Nat.le_of_ble_eq_true rfl, Nat.le_of_ble_eq_true rfl⟩).run) (fun x2 hx2 => ?_)
  subst hx2
  refine lv_if_eq (tgt := 19) hx hb d_Mo_take_12 (by decide) (fun h => absurd h (by decide +kernel)) (fun _ => ?_)
  refine lv_iconst (v := nI 1) hx hb d_Mo_take_15 (by decide +kernel) ?_
  refine lv_goto (tgt := 20) hx hb d_Mo_take_16 (by decide) ?_
  refine lv_istore hx hb d_Mo_take_20 hl (by decide) rfl (fun ls hl => ?_)
  have hl : lv_has ls 6 [(4, .int (nI 1)), (0, .ref (aw_m ad 0)), (1, .int (nI j)), (2, .int (nI k)), (3, .int (nI mm))] := hl
  refine lv_aload_n hx hb d_Mo_take_22 rfl (lv_at hl 1 rfl) ?_
  refine lv_iload hx hb d_Mo_take_23 (lv_at hl 0 rfl) ?_
  refine lv_if_ne (tgt := 32) hx hb d_Mo_take_25 (by decide) (fun _ => ?_) (fun h => absurd h (by decide +kernel))
  refine lv_aload_n hx hb d_Mo_take_32 rfl (lv_at hl 1 rfl) ?_
  refine lv_iload_n hx hb d_Mo_take_33 rfl (lv_at hl 2 rfl) ?_
  obtain ⟨_, _, _, he3⟩ := rd_M0 hSh
  refine va_calli (va_runV (As := [.int (nI j)]) (rest := [.ref (aw_m ad 0)]) ⟨hx, hb, hml, hown, hG⟩ (k_Mo_wrongTake2 l D g ad G M F N0 j hj hs) (aw_wV 1 hG gw_12_52 gw_12_50 gw_0_10 gw_12_51 gw_p_24 rfl rfl hd_Mo_wrongTake ⟨Nat.le_of_ble_eq_true rfl, Nat.le_of_ble_eq_true rfl⟩) (aw_qV (va_recv hK hP rfl he3) hP hD hSh hU hS) rfl rfl hl.1 rfl (lv_room (Nat.le_of_ble_eq_true rfl)) d_Mo_take_34 ⟨Nat.le_of_ble_eq_true rfl, Nat.le_of_ble_eq_true rfl⟩) hS (fun _ _ h => h) (fun _ h => h) (fun x4 u8 t8 H locs ht _ hpx4 hB _ _ hS => ?_)
  obtain ⟨L, hP, hD, hSh⟩ := hB
  rw [ht] at hP
  clear ht
  subst hpx4
  obtain ⟨_, _, _, he5⟩ := rd_M0 hSh
  refine va_calli (va_runV (As := [.int (nI 2)]) (rest := []) ⟨hx, hb, hml, hown, hG⟩ (k_Mo_refused1 l D g ad G M F N0 2 (by omega)) (aw_wV 1 hG gw_10_37 gw_10_35 gw_0_10 gw_10_36 gw_p_9 rfl rfl hd_Mo_refused ⟨Nat.le_of_ble_eq_true rfl, Nat.le_of_ble_eq_true rfl⟩) (aw_qV (va_recv hK hP rfl he5) hP hD hSh hU hS) rfl rfl hl.1 rfl (lv_room (Nat.le_of_ble_eq_true rfl)) d_Mo_take_37 ⟨Nat.le_of_ble_eq_true rfl, Nat.le_of_ble_eq_true rfl⟩) hS (fun _ _ h => h) (fun _ h => h) (fun x6 u8 t8 H locs ht _ hpx6 hB _ _ hS => ?_)
  obtain ⟨L, hP, hD, hSh⟩ := hB
  rw [ht] at hP
  clear ht
  subst hpx6
  refine lv_if_eq (tgt := 45) hx hb d_Mo_take_40 (by decide) (fun h => absurd h (by decide +kernel)) (fun _ => ?_)
  refine lv_iconst (v := nI 0) hx hb d_Mo_take_43 (by decide +kernel) ?_
  exact W.iret hx hb hr (fun t ht hW => ⟨⟨_, (), rfl, trivial, ⟨_, aw_Hr ht hP hD hSh⟩⟩, hS.F ht⟩) hS.2.2 d_Mo_take_44
abbrev ws_Mo_take1 : List Cond := Cond.code y_Mo_take b_Mo_take 6 (some .int) :: aw_G
abbrev rm_Mo_take1 : Room := { frames := 4, cells := 0, slots := 0, locals := 94 }
set_option maxHeartbeats 4000000 in
set_option maxRecDepth 100000 in
theorem k_Mo_take1 (l : Launch) (D : va_G) (g : Nat → ClassId) (ad : Nat → Nat) (G M : Nat → Nat × Nat) (F : Int32) (N0 : Nat) (j : Nat) (k : Nat) (mm : Nat) (hj : j < 4) (hk : k + mm ≤ 64) (hs : (M j).1 = 3 ∧ (M j).2 = 5) : Met l y_Mo_take ws_Mo_take1 rm_Mo_take1 (va_Pc ([.ref (aw_m ad 0), .int (nI j), .int (nI k), .int (nI mm)] : List Value) (aw_B D g ad G M F N0)) (va_Qi (fun r (_ : Unit) => True) (fun (_ : Unit) t => ∃ F' : Int32, aw_H D g ad G M F' N0 t.heap) (aw_Z N0)) 0 0 (aw_Z N0) := by
  refine Met.ofW (cc := b_Mo_take) (maxL := 6) (ret := (some .int)) (by decide) rfl ?_
  intro p e s m args below meth c s₁ B hml hv
  obtain ⟨rfl, ⟨L, hP, hD, hSh⟩, hU⟩ := hv
  have hx := B.exec
  have hb := B.bytes
  have hr := B.returns
  have hG : ∀ w ∈ aw_G, w.before _ s = true := fun w h => atoms_spec (ws := ws_Mo_take1) B.pre w (List.mem_cons_of_mem _ h)
  have hown : s.vm.findClass "RuleCiphersModel" = some m.cls := findClass_of_methodNamed B.named
  have hlocks := B.notSynchronized
  have hE := hU.1
  have hK := hE.1
  have hN := hE.2.1
  have hS : va_S (aw_Z N0) s.heap s.heap [] := va_S.rf
  have hl := lv_entry ([.ref (aw_m ad 0), .int (nI j), .int (nI k), .int (nI mm)] : List Value) (n := 6) (Nat.le_of_ble_eq_true rfl)
  rw [lg_entry_eq]
  generalize (lg_sl ([.ref (aw_m ad 0), .int (nI j), .int (nI k), .int (nI mm)] : List Value) ++ List.replicate (6 - (lg_sl ([.ref (aw_m ad 0), .int (nI j), .int (nI k), .int (nI mm)] : List Value)).length) Slot.unset).toArray = ls at hl ⊢
  have hl : lv_has ls 6 [(0, .ref (aw_m ad 0)), (1, .int (nI j)), (2, .int (nI k)), (3, .int (nI mm))] := hl
  refine lv_iload_n hx hb d_Mo_take_0 rfl (lv_at hl 1 rfl) ?_
  refine aw_ci ((va_runS (As := [.int (nI j)]) (rest := []) ⟨hx, hb, hml, hown, hG⟩ (k_Mo_isContext1 l j hj) (aw_wS 1 hG gw_10_34 gw_10_32 gw_0_10 gw_10_33 rfl rfl hd_Mo_isContext ⟨Nat.le_of_ble_eq_true rfl, Nat.le_of_ble_eq_true rfl⟩) aw_p0 rfl rfl hl.1 rfl (lv_room (Nat.le_of_ble_eq_true rfl)) d_Mo_take_1 ⟨Nat.le_of_ble_eq_true rfl, Nat.le_of_ble_eq_true rfl⟩).run) (fun x1 hx1 => ?_)
  subst hx1
  refine lv_if_eq (tgt := 19) hx hb d_Mo_take_4 (by decide) (fun h => absurd h (by decide +kernel)) (fun _ => ?_)
  refine lv_iload_n hx hb d_Mo_take_7 rfl (lv_at hl 2 rfl) ?_
  refine lv_iload_n hx hb d_Mo_take_8 rfl (lv_at hl 3 rfl) ?_
  refine aw_ci ((va_runS (As := [.int (nI k), .int (nI mm)]) (rest := []) ⟨hx, hb, hml, hown, hG⟩ (k_Mo_isPart1 l k mm hk) (aw_wS 2 hG gw_12_29 gw_12_27 gw_0_10 gw_12_28 rfl rfl hd_Mo_isPart ⟨Nat.le_of_ble_eq_true rfl, Nat.le_of_ble_eq_true rfl⟩) aw_p0 rfl rfl hl.1 rfl (lv_room (Nat.le_of_ble_eq_true rfl)) d_Mo_take_9 ⟨Nat.le_of_ble_eq_true rfl, Nat.le_of_ble_eq_true rfl⟩).run) (fun x2 hx2 => ?_)
  subst hx2
  refine lv_if_eq (tgt := 19) hx hb d_Mo_take_12 (by decide) (fun h => absurd h (by decide +kernel)) (fun _ => ?_)
  refine lv_iconst (v := nI 1) hx hb d_Mo_take_15 (by decide +kernel) ?_
  refine lv_goto (tgt := 20) hx hb d_Mo_take_16 (by decide) ?_
  refine lv_istore hx hb d_Mo_take_20 hl (by decide) rfl (fun ls hl => ?_)
  have hl : lv_has ls 6 [(4, .int (nI 1)), (0, .ref (aw_m ad 0)), (1, .int (nI j)), (2, .int (nI k)), (3, .int (nI mm))] := hl
  refine lv_aload_n hx hb d_Mo_take_22 rfl (lv_at hl 1 rfl) ?_
  refine lv_iload hx hb d_Mo_take_23 (lv_at hl 0 rfl) ?_
  refine lv_if_ne (tgt := 32) hx hb d_Mo_take_25 (by decide) (fun _ => ?_) (fun h => absurd h (by decide +kernel))
  refine lv_aload_n hx hb d_Mo_take_32 rfl (lv_at hl 1 rfl) ?_
  refine lv_iload_n hx hb d_Mo_take_33 rfl (lv_at hl 2 rfl) ?_
  obtain ⟨_, _, _, he3⟩ := rd_M0 hSh
  refine va_calli (va_runV (As := [.int (nI j)]) (rest := [.ref (aw_m ad 0)]) ⟨hx, hb, hml, hown, hG⟩ (k_Mo_wrongTake0 l D g ad G M F N0 j hj hs) (aw_wV 1 hG gw_12_52 gw_12_50 gw_0_10 gw_12_51 gw_p_24 rfl rfl hd_Mo_wrongTake ⟨Nat.le_of_ble_eq_true rfl, Nat.le_of_ble_eq_true rfl⟩) (aw_qV (va_recv hK hP rfl he3) hP hD hSh hU hS) rfl rfl hl.1 rfl (lv_room (Nat.le_of_ble_eq_true rfl)) d_Mo_take_34 ⟨Nat.le_of_ble_eq_true rfl, Nat.le_of_ble_eq_true rfl⟩) hS (fun _ _ h => h) (fun _ h => h) (fun x4 u8 t8 H locs ht _ hpx4 hB _ _ hS => ?_)
  obtain ⟨L, hP, hD, hSh⟩ := hB
  rw [ht] at hP
  clear ht
  subst hpx4
  obtain ⟨_, _, _, he5⟩ := rd_M0 hSh
  refine va_calli (va_runV (As := [.int (nI 0)]) (rest := []) ⟨hx, hb, hml, hown, hG⟩ (k_Mo_refused0 l D g ad G M F N0) (aw_wV 1 hG gw_10_37 gw_10_35 gw_0_10 gw_10_36 gw_p_9 rfl rfl hd_Mo_refused ⟨Nat.le_of_ble_eq_true rfl, Nat.le_of_ble_eq_true rfl⟩) (aw_qV (va_recv hK hP rfl he5) hP hD hSh hU hS) rfl rfl hl.1 rfl (lv_room (Nat.le_of_ble_eq_true rfl)) d_Mo_take_37 ⟨Nat.le_of_ble_eq_true rfl, Nat.le_of_ble_eq_true rfl⟩) hS (fun _ _ h => h) (fun _ h => h) (fun x6 u8 t8 H locs ht _ hpx6 hB _ _ hS => ?_)
  obtain ⟨L, hP, hD, hSh⟩ := hB
  rw [ht] at hP
  clear ht
  subst hpx6
  refine lv_if_eq (tgt := 45) hx hb d_Mo_take_40 (by decide) (fun _ => ?_) (fun h => absurd (by decide +kernel) h)
  refine lv_aload_n hx hb d_Mo_take_45 rfl (lv_at hl 1 rfl) ?_
  refine lv_iload_n hx hb d_Mo_take_46 rfl (lv_at hl 2 rfl) ?_
  obtain ⟨_, _, _, he7⟩ := rd_M0 hSh
  refine va_callv (va_runV (As := [.int (nI j)]) (rest := []) ⟨hx, hb, hml, hown, hG⟩ (k_Mo_prepare l D g ad G M (nI 0) N0 j hj) (aw_wV 1 hG gw_11_6 gw_11_4 gw_0_10 gw_11_5 gw_p_12 rfl rfl hd_Mo_prepare ⟨Nat.le_of_ble_eq_true rfl, Nat.le_of_ble_eq_true rfl⟩) (aw_qV (va_recv hK hP rfl he7) hP hD hSh hU hS) rfl rfl hl.1 rfl (lv_room (Nat.le_of_ble_eq_true rfl)) d_Mo_take_47 ⟨Nat.le_of_ble_eq_true rfl, Nat.le_of_ble_eq_true rfl⟩) hS (fun _ _ h => h) (fun _ h => h) (fun u8 t8 H locs ht _ _ hB _ _ hS => ?_)
  obtain ⟨L, hP, hD, hSh⟩ := hB
  rw [ht] at hP
  clear ht
  refine lv_iconst (v := nI 0) hx hb d_Mo_take_50 (by decide +kernel) ?_
  refine lv_istore hx hb d_Mo_take_51 hl (by decide) rfl (fun ls hl => ?_)
  have hl : lv_has ls 6 [(5, .int (nI 0)), (4, .int (nI 1)), (0, .ref (aw_m ad 0)), (1, .int (nI j)), (2, .int (nI k)), (3, .int (nI mm))] := hl
  have L53 : ∀ (d t : Nat)  (H : Heap) (locs : List Loc) (L : va_W) (ls : Array Slot), t + d = mm → va_P D aw_C L H → va_D (aw_Z N0) L → aw_Sh g ad G M (nI 0) L → va_S (aw_Z N0) s.heap H locs → lv_has ls 6 [(0, .ref (aw_m ad 0)), (1, .int (nI j)), (2, .int (nI k)), (3, .int (nI mm)), (4, .int (nI 1)), (5, .int (nI t))] → W p l e (headSpec ws_Mo_take1 rm_Mo_take1).room s m ([.ref (aw_m ad 0), .int (nI j), .int (nI k), .int (nI mm)] : List Value).toArray below meth c H locs 0 0 (MQ below (va_Qi (fun r (_ : Unit) => True) (fun (_ : Unit) t => ∃ F' : Int32, aw_H D g ad G M F' N0 t.heap) (aw_Z N0)) ([.ref (aw_m ad 0), .int (nI j), .int (nI k), .int (nI mm)] : List Value).toArray s 0 0 (aw_Z N0)) (F0 m 53 ls []) := by
    clear hP hD hSh hS
    clear hl
    intro d
    induction d with
    | zero => 
      intro t  H locs L ls ht0 hP hD hSh hS hl
      refine lv_iload hx hb d_Mo_take_53 (lv_at hl 5 rfl) ?_
      refine lv_iload_n hx hb d_Mo_take_55 rfl (lv_at hl 3 rfl) ?_
      refine lv_icmp_ge (tgt := 159) hx hb d_Mo_take_56 (by decide) (fun _ => ?_) (fun h => absurd (show nI mm ≤ nI t from (nI_leI (by omega) (by omega)).mpr (by omega)) h)
      refine lv_aload_n hx hb d_Mo_take_159 rfl (lv_at hl 0 rfl) ?_
      obtain ⟨x9, o10, hw11, he8⟩ := rd_M0 hSh
      refine va_get (C := R_Mo) (T := T_Mo) (N := 19) (v := .ref (aw_m ad 11)) hx hb hG in_Mo hown hK hP 67 he8 rfl 11 (by decide) (hG _ gw_9_36) (fun _ h => h) rfl d_Mo_take_160 ?_
      refine lv_iload_n hx hb d_Mo_take_163 rfl (lv_at hl 1 rfl) ?_
      refine lv_aload_n hx hb d_Mo_take_164 rfl (lv_at hl 0 rfl) ?_
      obtain ⟨x13, o14, hw15, he12⟩ := rd_M0 hSh
      refine va_get (C := R_Mo) (T := T_Mo) (N := 19) (v := .ref (aw_m ad 11)) hx hb hG in_Mo hown hK hP 67 he12 rfl 11 (by decide) (hG _ gw_9_36) (fun _ h => h) rfl d_Mo_take_165 ?_
      refine lv_iload_n hx hb d_Mo_take_168 rfl (lv_at hl 1 rfl) ?_
      obtain ⟨f17, he16⟩ := rd_M11 hSh
      refine aw_ild hx hb hK hP 78 0 he16 rfl (k := j) (by omega) (by decide) d_Mo_take_169 ?_
      refine lv_topi (fun x18 _ => ?_)
      refine lv_iload_n hx hb d_Mo_take_170 rfl (lv_at hl 3 rfl) ?_
      refine lv_iadd hx hb d_Mo_take_171 ?_
      refine lv_topi (fun x19 _ => ?_)
      obtain ⟨f21, he20⟩ := rd_M11 hSh
      refine aw_istI hx hb hK hP hD hS 78 0 he20 rfl (k := j) (by omega) (by decide) d_Mo_take_172 (wr_M11 hSh _) (fun H locs L hP hD hSh hS => ?_)
      refine lv_aload_n hx hb d_Mo_take_173 rfl (lv_at hl 0 rfl) ?_
      obtain ⟨x23, o24, hw25, he22⟩ := rd_M0 hSh
      refine va_get (C := R_Mo) (T := T_Mo) (N := 19) (v := .ref (aw_m ad 11)) hx hb hG in_Mo hown hK hP 67 he22 rfl 11 (by decide) (hG _ gw_9_36) (fun _ h => h) rfl d_Mo_take_174 ?_
      refine lv_iload_n hx hb d_Mo_take_177 rfl (lv_at hl 1 rfl) ?_
      obtain ⟨f27, he26⟩ := rd_M11 hSh
      refine aw_ild hx hb hK hP 78 0 he26 rfl (k := j) (by omega) (by decide) d_Mo_take_178 ?_
      refine lv_topi (fun x28 _ => ?_)
      exact W.iret hx hb hr (fun t ht hW => ⟨⟨_, (), rfl, trivial, ⟨_, aw_Hr ht hP hD hSh⟩⟩, hS.F ht⟩) hS.2.2 d_Mo_take_179
    | succ d ih => 
      intro t  H locs L ls ht0 hP hD hSh hS hl
      refine lv_iload hx hb d_Mo_take_53 (lv_at hl 5 rfl) ?_
      refine lv_iload_n hx hb d_Mo_take_55 rfl (lv_at hl 3 rfl) ?_
      refine lv_icmp_ge (tgt := 159) hx hb d_Mo_take_56 (by decide) (fun h => absurd h (show ¬ nI mm ≤ nI t from fun h9 => absurd ((nI_leI (by omega) (by omega)).mp h9) (by omega))) (fun _ => ?_)
      refine lv_aload_n hx hb d_Mo_take_59 rfl (lv_at hl 0 rfl) ?_
      obtain ⟨x30, o31, hw32, he29⟩ := rd_M0 hSh
      refine va_get (C := R_Mo) (T := T_Mo) (N := 19) (v := .ref (aw_m ad 14)) hx hb hG in_Mo hown hK hP 67 he29 rfl 14 (by decide) (hG _ gw_9_39) (fun _ h => h) rfl d_Mo_take_60 ?_
      refine lv_iload_n hx hb d_Mo_take_63 rfl (lv_at hl 1 rfl) ?_
      obtain ⟨f34, he33⟩ := rd_M14 hSh
      refine aw_ild hx hb hK hP 81 0 he33 rfl (k := j) (by omega) (by decide) d_Mo_take_64 ?_
      refine lv_topi (fun x35 _ => ?_)
      refine lv_bipush (v := nI 8) hx hb d_Mo_take_65 (by decide +kernel) ?_
      refine lv_icmp_ne (tgt := 107) hx hb d_Mo_take_67 (by decide) (fun hb36 => ?_) (fun hb36 => ?_)
      · refine lv_aload_n hx hb d_Mo_take_107 rfl (lv_at hl 0 rfl) ?_
        obtain ⟨x38, o39, hw40, he37⟩ := rd_M0 hSh
        refine va_get (C := R_Mo) (T := T_Mo) (N := 19) (v := .ref (aw_m ad 13)) hx hb hG in_Mo hown hK hP 67 he37 rfl 13 (by decide) (hG _ gw_9_38) (fun _ h => h) rfl d_Mo_take_108 ?_
        refine lv_iload_n hx hb d_Mo_take_111 rfl (lv_at hl 1 rfl) ?_
        refine lv_aload_n hx hb d_Mo_take_112 rfl (lv_at hl 0 rfl) ?_
        obtain ⟨x42, o43, hw44, he41⟩ := rd_M0 hSh
        refine va_get (C := R_Mo) (T := T_Mo) (N := 19) (v := .ref (aw_m ad 13)) hx hb hG in_Mo hown hK hP 67 he41 rfl 13 (by decide) (hG _ gw_9_38) (fun _ h => h) rfl d_Mo_take_113 ?_
        refine lv_iload_n hx hb d_Mo_take_116 rfl (lv_at hl 1 rfl) ?_
        obtain ⟨f46, he45⟩ := rd_M13 hSh
        refine aw_lld hx hb hK hP 80 1 he45 rfl (k := j) (by omega) (by decide) d_Mo_take_117 ?_
        refine lv_topl (fun y47 _ => ?_)
        refine lv_aload_n hx hb d_Mo_take_118 rfl (lv_at hl 0 rfl) ?_
        obtain ⟨x49, o50, hw51, he48⟩ := rd_M0 hSh
        refine va_get (C := R_Mo) (T := T_Mo) (N := 19) (v := .ref (aw_m ad 1)) hx hb hG in_Mo hown hK hP 67 he48 rfl 1 (by decide) (hG _ gw_9_26) (fun _ h => h) rfl d_Mo_take_119 ?_
        refine lv_iload_n hx hb d_Mo_take_122 rfl (lv_at hl 2 rfl) ?_
        refine lv_iload hx hb d_Mo_take_123 (lv_at hl 5 rfl) ?_
        refine lv_iadd hx hb d_Mo_take_125 ?_
        refine aw_ti (nI_add k t) ?_
        obtain ⟨f53, he52⟩ := rd_M1 hSh
        refine aw_ild hx hb hK hP 68 0 he52 rfl (k := (k + t)) (by omega) (by decide) d_Mo_take_126 ?_
        refine lv_topi (fun x54 _ => ?_)
        refine lv_i2l hx hb d_Mo_take_127 rfl ?_
        refine lv_topl (fun y55 _ => ?_)
        refine lv_bipush (v := nI 56) hx hb d_Mo_take_128 (by decide +kernel) ?_
        refine lv_bipush (v := nI 8) hx hb d_Mo_take_130 (by decide +kernel) ?_
        refine lv_aload_n hx hb d_Mo_take_132 rfl (lv_at hl 0 rfl) ?_
        obtain ⟨x57, o58, hw59, he56⟩ := rd_M0 hSh
        refine va_get (C := R_Mo) (T := T_Mo) (N := 19) (v := .ref (aw_m ad 14)) hx hb hG in_Mo hown hK hP 67 he56 rfl 14 (by decide) (hG _ gw_9_39) (fun _ h => h) rfl d_Mo_take_133 ?_
        refine lv_iload_n hx hb d_Mo_take_136 rfl (lv_at hl 1 rfl) ?_
        obtain ⟨f61, he60⟩ := rd_M14 hSh
        refine aw_ild hx hb hK hP 81 0 he60 rfl (k := j) (by omega) (by decide) d_Mo_take_137 ?_
        refine lv_topi (fun x62 _ => ?_)
        refine lv_imul hx hb d_Mo_take_138 ?_
        refine lv_topi (fun x63 _ => ?_)
        refine lv_isub hx hb d_Mo_take_139 ?_
        refine lv_topi (fun x64 _ => ?_)
        refine lv_lshl hx hb d_Mo_take_140 rfl ?_
        refine lv_topl (fun y65 _ => ?_)
        refine lv_lor hx hb d_Mo_take_141 ?_
        refine lv_topl (fun y66 _ => ?_)
        obtain ⟨f68, he67⟩ := rd_M13 hSh
        refine aw_lstI hx hb hK hP hD hS 80 1 he67 rfl (k := j) (by omega) (by decide) d_Mo_take_142 (wr_M13 hSh _) (fun H locs L hP hD hSh hS => ?_)
        refine lv_aload_n hx hb d_Mo_take_143 rfl (lv_at hl 0 rfl) ?_
        obtain ⟨x70, o71, hw72, he69⟩ := rd_M0 hSh
        refine va_get (C := R_Mo) (T := T_Mo) (N := 19) (v := .ref (aw_m ad 14)) hx hb hG in_Mo hown hK hP 67 he69 rfl 14 (by decide) (hG _ gw_9_39) (fun _ h => h) rfl d_Mo_take_144 ?_
        refine lv_iload_n hx hb d_Mo_take_147 rfl (lv_at hl 1 rfl) ?_
        refine lv_dup2_11 hx hb d_Mo_take_148 rfl rfl ?_
        obtain ⟨f74, he73⟩ := rd_M14 hSh
        refine aw_ild hx hb hK hP 81 0 he73 rfl (k := j) (by omega) (by decide) d_Mo_take_149 ?_
        refine lv_topi (fun x75 _ => ?_)
        refine lv_iconst (v := nI 1) hx hb d_Mo_take_150 (by decide +kernel) ?_
        refine lv_iadd hx hb d_Mo_take_151 ?_
        refine lv_topi (fun x76 _ => ?_)
        obtain ⟨f78, he77⟩ := rd_M14 hSh
        refine aw_istI hx hb hK hP hD hS 81 0 he77 rfl (k := j) (by omega) (by decide) d_Mo_take_152 (wr_M14 hSh _) (fun H locs L hP hD hSh hS => ?_)
        refine lv_iinc (k := 5) (v := nI (t + 1)) hx hb d_Mo_take_153 hl rfl (aw_inc t 1 1 (by decide +kernel)) (by decide) rfl (fun ls hl => ?_)
        have hl : lv_has ls 6 [(5, .int (nI (t + 1))), (0, .ref (aw_m ad 0)), (1, .int (nI j)), (2, .int (nI k)), (3, .int (nI mm)), (4, .int (nI 1))] := hl
        refine lv_goto (tgt := 53) hx hb d_Mo_take_156 (by decide) ?_
        have hl := lv_sub hl (l' := [(0, .ref (aw_m ad 0)), (1, .int (nI j)), (2, .int (nI k)), (3, .int (nI mm)), (4, .int (nI 1)), (5, .int (nI (t + 1)))]) [1, 2, 3, 4, 5, 0] rfl
        exact ih (t + 1)  H locs L ls (by omega) hP hD hSh hS (by first | exact hl | simpa [Nat.add_assoc, Nat.mul_add, Nat.add_comm] using hl)
      · refine lv_aload_n hx hb d_Mo_take_70 rfl (lv_at hl 0 rfl) ?_
        obtain ⟨x80, o81, hw82, he79⟩ := rd_M0 hSh
        refine va_get (C := R_Mo) (T := T_Mo) (N := 19) (v := .ref (aw_m ad 12)) hx hb hG in_Mo hown hK hP 67 he79 rfl 12 (by decide) (hG _ gw_9_37) (fun _ h => h) rfl d_Mo_take_71 ?_
        refine lv_iload_n hx hb d_Mo_take_74 rfl (lv_at hl 1 rfl) ?_
        refine lv_aload_n hx hb d_Mo_take_75 rfl (lv_at hl 0 rfl) ?_
        refine lv_aload_n hx hb d_Mo_take_76 rfl (lv_at hl 0 rfl) ?_
        obtain ⟨x84, o85, hw86, he83⟩ := rd_M0 hSh
        refine va_get (C := R_Mo) (T := T_Mo) (N := 19) (v := .ref (aw_m ad 12)) hx hb hG in_Mo hown hK hP 67 he83 rfl 12 (by decide) (hG _ gw_9_37) (fun _ h => h) rfl d_Mo_take_77 ?_
        refine lv_iload_n hx hb d_Mo_take_80 rfl (lv_at hl 1 rfl) ?_
        obtain ⟨f88, he87⟩ := rd_M12 hSh
        refine aw_lld hx hb hK hP 79 1 he87 rfl (k := j) (by omega) (by decide) d_Mo_take_81 ?_
        refine lv_topl (fun y89 _ => ?_)
        refine lv_aload_n hx hb d_Mo_take_82 rfl (lv_at hl 0 rfl) ?_
        obtain ⟨x91, o92, hw93, he90⟩ := rd_M0 hSh
        refine va_get (C := R_Mo) (T := T_Mo) (N := 19) (v := .ref (aw_m ad 13)) hx hb hG in_Mo hown hK hP 67 he90 rfl 13 (by decide) (hG _ gw_9_38) (fun _ h => h) rfl d_Mo_take_83 ?_
        refine lv_iload_n hx hb d_Mo_take_86 rfl (lv_at hl 1 rfl) ?_
        obtain ⟨f95, he94⟩ := rd_M13 hSh
        refine aw_lld hx hb hK hP 80 1 he94 rfl (k := j) (by omega) (by decide) d_Mo_take_87 ?_
        refine lv_topl (fun y96 _ => ?_)
        refine lv_lxor hx hb d_Mo_take_88 ?_
        refine lv_topl (fun y97 _ => ?_)
        obtain ⟨_, _, _, he98⟩ := rd_M0 hSh
        refine va_calll (va_runV (As := [.long y97]) (rest := [.int (nI j), .ref (aw_m ad 12)]) ⟨hx, hb, hml, hown, hG⟩ (k_Mo_on l D g ad G M (nI 0) N0 y97) (aw_wV 1 hG gw_12_4 gw_12_2 gw_0_10 gw_12_3 gw_p_18 rfl rfl hd_Mo_on ⟨Nat.le_of_ble_eq_true rfl, Nat.le_of_ble_eq_true rfl⟩) (aw_qV (va_recv hK hP rfl he98) hP hD hSh hU hS) rfl rfl hl.1 rfl (lv_room (Nat.le_of_ble_eq_true rfl)) d_Mo_take_89 ⟨Nat.le_of_ble_eq_true rfl, Nat.le_of_ble_eq_true rfl⟩) hS (fun _ _ h => h) (fun _ h => h) (fun y99 u8 t8 H locs ht _ _ hB _ _ hS => ?_)
        obtain ⟨L, hP, hD, hSh⟩ := hB
        rw [ht] at hP
        clear ht
        obtain ⟨f101, he100⟩ := rd_M12 hSh
        refine aw_lstI hx hb hK hP hD hS 79 1 he100 rfl (k := j) (by omega) (by decide) d_Mo_take_92 (wr_M12 hSh _) (fun H locs L hP hD hSh hS => ?_)
        refine lv_aload_n hx hb d_Mo_take_93 rfl (lv_at hl 0 rfl) ?_
        obtain ⟨x103, o104, hw105, he102⟩ := rd_M0 hSh
        refine va_get (C := R_Mo) (T := T_Mo) (N := 19) (v := .ref (aw_m ad 13)) hx hb hG in_Mo hown hK hP 67 he102 rfl 13 (by decide) (hG _ gw_9_38) (fun _ h => h) rfl d_Mo_take_94 ?_
        refine lv_iload_n hx hb d_Mo_take_97 rfl (lv_at hl 1 rfl) ?_
        refine lv_lconst (v := 0) hx hb d_Mo_take_98 (by decide +kernel) ?_
        obtain ⟨f107, he106⟩ := rd_M13 hSh
        refine aw_lstI hx hb hK hP hD hS 80 1 he106 rfl (k := j) (by omega) (by decide) d_Mo_take_99 (wr_M13 hSh _) (fun H locs L hP hD hSh hS => ?_)
        refine lv_aload_n hx hb d_Mo_take_100 rfl (lv_at hl 0 rfl) ?_
        obtain ⟨x109, o110, hw111, he108⟩ := rd_M0 hSh
        refine va_get (C := R_Mo) (T := T_Mo) (N := 19) (v := .ref (aw_m ad 14)) hx hb hG in_Mo hown hK hP 67 he108 rfl 14 (by decide) (hG _ gw_9_39) (fun _ h => h) rfl d_Mo_take_101 ?_
        refine lv_iload_n hx hb d_Mo_take_104 rfl (lv_at hl 1 rfl) ?_
        refine lv_iconst (v := nI 0) hx hb d_Mo_take_105 (by decide +kernel) ?_
        obtain ⟨f113, he112⟩ := rd_M14 hSh
        refine aw_istI hx hb hK hP hD hS 81 0 he112 rfl (k := j) (by omega) (by decide) d_Mo_take_106 (wr_M14 hSh _) (fun H locs L hP hD hSh hS => ?_)
        refine lv_aload_n hx hb d_Mo_take_107 rfl (lv_at hl 0 rfl) ?_
        obtain ⟨x115, o116, hw117, he114⟩ := rd_M0 hSh
        refine va_get (C := R_Mo) (T := T_Mo) (N := 19) (v := .ref (aw_m ad 13)) hx hb hG in_Mo hown hK hP 67 he114 rfl 13 (by decide) (hG _ gw_9_38) (fun _ h => h) rfl d_Mo_take_108 ?_
        refine lv_iload_n hx hb d_Mo_take_111 rfl (lv_at hl 1 rfl) ?_
        refine lv_aload_n hx hb d_Mo_take_112 rfl (lv_at hl 0 rfl) ?_
        obtain ⟨x119, o120, hw121, he118⟩ := rd_M0 hSh
        refine va_get (C := R_Mo) (T := T_Mo) (N := 19) (v := .ref (aw_m ad 13)) hx hb hG in_Mo hown hK hP 67 he118 rfl 13 (by decide) (hG _ gw_9_38) (fun _ h => h) rfl d_Mo_take_113 ?_
        refine lv_iload_n hx hb d_Mo_take_116 rfl (lv_at hl 1 rfl) ?_
        obtain ⟨f123, he122⟩ := rd_M13 hSh
        refine aw_lld hx hb hK hP 80 1 he122 rfl (k := j) (by omega) (by decide) d_Mo_take_117 ?_
        refine lv_topl (fun y124 _ => ?_)
        refine lv_aload_n hx hb d_Mo_take_118 rfl (lv_at hl 0 rfl) ?_
        obtain ⟨x126, o127, hw128, he125⟩ := rd_M0 hSh
        refine va_get (C := R_Mo) (T := T_Mo) (N := 19) (v := .ref (aw_m ad 1)) hx hb hG in_Mo hown hK hP 67 he125 rfl 1 (by decide) (hG _ gw_9_26) (fun _ h => h) rfl d_Mo_take_119 ?_
        refine lv_iload_n hx hb d_Mo_take_122 rfl (lv_at hl 2 rfl) ?_
        refine lv_iload hx hb d_Mo_take_123 (lv_at hl 5 rfl) ?_
        refine lv_iadd hx hb d_Mo_take_125 ?_
        refine aw_ti (nI_add k t) ?_
        obtain ⟨f130, he129⟩ := rd_M1 hSh
        refine aw_ild hx hb hK hP 68 0 he129 rfl (k := (k + t)) (by omega) (by decide) d_Mo_take_126 ?_
        refine lv_topi (fun x131 _ => ?_)
        refine lv_i2l hx hb d_Mo_take_127 rfl ?_
        refine lv_topl (fun y132 _ => ?_)
        refine lv_bipush (v := nI 56) hx hb d_Mo_take_128 (by decide +kernel) ?_
        refine lv_bipush (v := nI 8) hx hb d_Mo_take_130 (by decide +kernel) ?_
        refine lv_aload_n hx hb d_Mo_take_132 rfl (lv_at hl 0 rfl) ?_
        obtain ⟨x134, o135, hw136, he133⟩ := rd_M0 hSh
        refine va_get (C := R_Mo) (T := T_Mo) (N := 19) (v := .ref (aw_m ad 14)) hx hb hG in_Mo hown hK hP 67 he133 rfl 14 (by decide) (hG _ gw_9_39) (fun _ h => h) rfl d_Mo_take_133 ?_
        refine lv_iload_n hx hb d_Mo_take_136 rfl (lv_at hl 1 rfl) ?_
        obtain ⟨f138, he137⟩ := rd_M14 hSh
        refine aw_ild hx hb hK hP 81 0 he137 rfl (k := j) (by omega) (by decide) d_Mo_take_137 ?_
        refine lv_topi (fun x139 _ => ?_)
        refine lv_imul hx hb d_Mo_take_138 ?_
        refine lv_topi (fun x140 _ => ?_)
        refine lv_isub hx hb d_Mo_take_139 ?_
        refine lv_topi (fun x141 _ => ?_)
        refine lv_lshl hx hb d_Mo_take_140 rfl ?_
        refine lv_topl (fun y142 _ => ?_)
        refine lv_lor hx hb d_Mo_take_141 ?_
        refine lv_topl (fun y143 _ => ?_)
        obtain ⟨f145, he144⟩ := rd_M13 hSh
        refine aw_lstI hx hb hK hP hD hS 80 1 he144 rfl (k := j) (by omega) (by decide) d_Mo_take_142 (wr_M13 hSh _) (fun H locs L hP hD hSh hS => ?_)
        refine lv_aload_n hx hb d_Mo_take_143 rfl (lv_at hl 0 rfl) ?_
        obtain ⟨x147, o148, hw149, he146⟩ := rd_M0 hSh
        refine va_get (C := R_Mo) (T := T_Mo) (N := 19) (v := .ref (aw_m ad 14)) hx hb hG in_Mo hown hK hP 67 he146 rfl 14 (by decide) (hG _ gw_9_39) (fun _ h => h) rfl d_Mo_take_144 ?_
        refine lv_iload_n hx hb d_Mo_take_147 rfl (lv_at hl 1 rfl) ?_
        refine lv_dup2_11 hx hb d_Mo_take_148 rfl rfl ?_
        obtain ⟨f151, he150⟩ := rd_M14 hSh
        refine aw_ild hx hb hK hP 81 0 he150 rfl (k := j) (by omega) (by decide) d_Mo_take_149 ?_
        refine lv_topi (fun x152 _ => ?_)
        refine lv_iconst (v := nI 1) hx hb d_Mo_take_150 (by decide +kernel) ?_
        refine lv_iadd hx hb d_Mo_take_151 ?_
        refine lv_topi (fun x153 _ => ?_)
        obtain ⟨f155, he154⟩ := rd_M14 hSh
        refine aw_istI hx hb hK hP hD hS 81 0 he154 rfl (k := j) (by omega) (by decide) d_Mo_take_152 (wr_M14 hSh _) (fun H locs L hP hD hSh hS => ?_)
        refine lv_iinc (k := 5) (v := nI (t + 1)) hx hb d_Mo_take_153 hl rfl (aw_inc t 1 1 (by decide +kernel)) (by decide) rfl (fun ls hl => ?_)
        have hl : lv_has ls 6 [(5, .int (nI (t + 1))), (0, .ref (aw_m ad 0)), (1, .int (nI j)), (2, .int (nI k)), (3, .int (nI mm)), (4, .int (nI 1))] := hl
        refine lv_goto (tgt := 53) hx hb d_Mo_take_156 (by decide) ?_
        have hl := lv_sub hl (l' := [(0, .ref (aw_m ad 0)), (1, .int (nI j)), (2, .int (nI k)), (3, .int (nI mm)), (4, .int (nI 1)), (5, .int (nI (t + 1)))]) [1, 2, 3, 4, 5, 0] rfl
        exact ih (t + 1)  H locs L ls (by omega) hP hD hSh hS (by first | exact hl | simpa [Nat.add_assoc, Nat.mul_add, Nat.add_comm] using hl)
  have hl := lv_sub hl (l' := [(0, .ref (aw_m ad 0)), (1, .int (nI j)), (2, .int (nI k)), (3, .int (nI mm)), (4, .int (nI 1)), (5, .int (nI 0))]) [2, 3, 4, 5, 1, 0] rfl
  exact L53 mm 0  _ _ _ ls (by omega) hP hD hSh hS (by first | exact hl | simpa using hl)
abbrev ws_Mo_tagXc : List Cond := Cond.code y_Mo_tag b_Mo_tag 8 (some .long) :: aw_G
abbrev rm_Mo_tagXc : Room := { frames := 4, cells := 0, slots := 0, locals := 94 }
set_option maxHeartbeats 4000000 in
set_option maxRecDepth 100000 in
theorem k_Mo_tagXc (l : Launch) (D : va_G) (g : Nat → ClassId) (ad : Nat → Nat) (G M : Nat → Nat × Nat) (F : Int32) (N0 : Nat) (c0 : Int32) (hc : c0 < 0 ∨ (¬ c0 < 0 ∧ ¬ c0 < nI 4)) : Met l y_Mo_tag ws_Mo_tagXc rm_Mo_tagXc (va_Pc ([.ref (aw_m ad 0), .int c0] : List Value) (aw_B D g ad G M F N0)) (va_Ql (fun r (_ : Unit) => True) (fun (_ : Unit) t => ∃ F' : Int32, aw_H D g ad G M F' N0 t.heap) (aw_Z N0)) 0 0 (aw_Z N0) := by
  refine Met.ofW (cc := b_Mo_tag) (maxL := 8) (ret := (some .long)) (by decide) rfl ?_
  intro p e s m args below meth c s₁ B hml hv
  obtain ⟨rfl, ⟨L, hP, hD, hSh⟩, hU⟩ := hv
  have hx := B.exec
  have hb := B.bytes
  have hr := B.returns
  have hG : ∀ w ∈ aw_G, w.before _ s = true := fun w h => atoms_spec (ws := ws_Mo_tagXc) B.pre w (List.mem_cons_of_mem _ h)
  have hown : s.vm.findClass "RuleCiphersModel" = some m.cls := findClass_of_methodNamed B.named
  have hlocks := B.notSynchronized
  have hE := hU.1
  have hK := hE.1
  have hN := hE.2.1
  have hS : va_S (aw_Z N0) s.heap s.heap [] := va_S.rf
  have hl := lv_entry ([.ref (aw_m ad 0), .int c0] : List Value) (n := 8) (Nat.le_of_ble_eq_true rfl)
  rw [lg_entry_eq]
  generalize (lg_sl ([.ref (aw_m ad 0), .int c0] : List Value) ++ List.replicate (8 - (lg_sl ([.ref (aw_m ad 0), .int c0] : List Value)).length) Slot.unset).toArray = ls at hl ⊢
  have hl : lv_has ls 8 [(0, .ref (aw_m ad 0)), (1, .int c0)] := hl
  refine lv_aload_n hx hb d_Mo_tag_0 rfl (lv_at hl 0 rfl) ?_
  refine lv_iload_n hx hb d_Mo_tag_1 rfl (lv_at hl 1 rfl) ?_
  refine aw_ci ((va_runS (As := [.int c0]) (rest := [.ref (aw_m ad 0)]) ⟨hx, hb, hml, hown, hG⟩ (k_Mo_isContext0 l c0 hc) (aw_wS 1 hG gw_10_34 gw_10_32 gw_0_10 gw_10_33 rfl rfl hd_Mo_isContext ⟨Nat.le_of_ble_eq_true rfl, Nat.le_of_ble_eq_true rfl⟩) aw_p0 rfl rfl hl.1 rfl (lv_room (Nat.le_of_ble_eq_true rfl)) d_Mo_tag_2 ⟨Nat.le_of_ble_eq_true rfl, Nat.le_of_ble_eq_true rfl⟩).run) (fun x1 hx1 => ?_)
  subst hx1
  refine lv_if_ne (tgt := 12) hx hb d_Mo_tag_5 (by decide) (fun h => absurd (by decide +kernel) h) (fun _ => ?_)
  refine lv_iconst (v := nI 1) hx hb d_Mo_tag_8 (by decide +kernel) ?_
  refine lv_goto (tgt := 17) hx hb d_Mo_tag_9 (by decide) ?_
  obtain ⟨_, _, _, he2⟩ := rd_M0 hSh
  refine va_calli (va_runV (As := [.int (nI 1)]) (rest := []) ⟨hx, hb, hml, hown, hG⟩ (k_Mo_refused1 l D g ad G M F N0 1 (by omega)) (aw_wV 1 hG gw_10_37 gw_10_35 gw_0_10 gw_10_36 gw_p_9 rfl rfl hd_Mo_refused ⟨Nat.le_of_ble_eq_true rfl, Nat.le_of_ble_eq_true rfl⟩) (aw_qV (va_recv hK hP rfl he2) hP hD hSh hU hS) rfl rfl hl.1 rfl (lv_room (Nat.le_of_ble_eq_true rfl)) d_Mo_tag_17 ⟨Nat.le_of_ble_eq_true rfl, Nat.le_of_ble_eq_true rfl⟩) hS (fun _ _ h => h) (fun _ h => h) (fun x3 u8 t8 H locs ht _ hpx3 hB _ _ hS => ?_)
  obtain ⟨L, hP, hD, hSh⟩ := hB
  rw [ht] at hP
  clear ht
  subst hpx3
  refine lv_if_eq (tgt := 25) hx hb d_Mo_tag_20 (by decide) (fun h => absurd h (by decide +kernel)) (fun _ => ?_)
  refine lv_lconst (v := 0) hx hb d_Mo_tag_23 (by decide +kernel) ?_
  exact W.lret hx hb hr (fun t ht hW => ⟨⟨_, (), rfl, trivial, ⟨_, aw_Hr ht hP hD hSh⟩⟩, hS.F ht⟩) hS.2.2 d_Mo_tag_24
abbrev ws_Mo_tagXs : List Cond := Cond.code y_Mo_tag b_Mo_tag 8 (some .long) :: aw_G
abbrev rm_Mo_tagXs : Room := { frames := 4, cells := 0, slots := 0, locals := 94 }
set_option maxHeartbeats 4000000 in
set_option maxRecDepth 100000 in
theorem k_Mo_tagXs (l : Launch) (D : va_G) (g : Nat → ClassId) (ad : Nat → Nat) (G M : Nat → Nat × Nat) (F : Int32) (N0 : Nat) (j : Nat) (hj : j < 4) (hs : (M j).1 ≤ 2 ∨ ((M j).1 = 3 ∧ (M j).2 ≠ 5)) : Met l y_Mo_tag ws_Mo_tagXs rm_Mo_tagXs (va_Pc ([.ref (aw_m ad 0), .int (nI j)] : List Value) (aw_B D g ad G M F N0)) (va_Ql (fun r (_ : Unit) => True) (fun (_ : Unit) t => ∃ F' : Int32, aw_H D g ad G M F' N0 t.heap) (aw_Z N0)) 0 0 (aw_Z N0) := by
  refine Met.ofW (cc := b_Mo_tag) (maxL := 8) (ret := (some .long)) (by decide) rfl ?_
  intro p e s m args below meth c s₁ B hml hv
  obtain ⟨rfl, ⟨L, hP, hD, hSh⟩, hU⟩ := hv
  have hx := B.exec
  have hb := B.bytes
  have hr := B.returns
  have hG : ∀ w ∈ aw_G, w.before _ s = true := fun w h => atoms_spec (ws := ws_Mo_tagXs) B.pre w (List.mem_cons_of_mem _ h)
  have hown : s.vm.findClass "RuleCiphersModel" = some m.cls := findClass_of_methodNamed B.named
  have hlocks := B.notSynchronized
  have hE := hU.1
  have hK := hE.1
  have hN := hE.2.1
  have hS : va_S (aw_Z N0) s.heap s.heap [] := va_S.rf
  have hl := lv_entry ([.ref (aw_m ad 0), .int (nI j)] : List Value) (n := 8) (Nat.le_of_ble_eq_true rfl)
  rw [lg_entry_eq]
  generalize (lg_sl ([.ref (aw_m ad 0), .int (nI j)] : List Value) ++ List.replicate (8 - (lg_sl ([.ref (aw_m ad 0), .int (nI j)] : List Value)).length) Slot.unset).toArray = ls at hl ⊢
  have hl : lv_has ls 8 [(0, .ref (aw_m ad 0)), (1, .int (nI j))] := hl
  refine lv_aload_n hx hb d_Mo_tag_0 rfl (lv_at hl 0 rfl) ?_
  refine lv_iload_n hx hb d_Mo_tag_1 rfl (lv_at hl 1 rfl) ?_
  refine aw_ci ((va_runS (As := [.int (nI j)]) (rest := [.ref (aw_m ad 0)]) ⟨hx, hb, hml, hown, hG⟩ (k_Mo_isContext1 l j hj) (aw_wS 1 hG gw_10_34 gw_10_32 gw_0_10 gw_10_33 rfl rfl hd_Mo_isContext ⟨Nat.le_of_ble_eq_true rfl, Nat.le_of_ble_eq_true rfl⟩) aw_p0 rfl rfl hl.1 rfl (lv_room (Nat.le_of_ble_eq_true rfl)) d_Mo_tag_2 ⟨Nat.le_of_ble_eq_true rfl, Nat.le_of_ble_eq_true rfl⟩).run) (fun x1 hx1 => ?_)
  subst hx1
  refine lv_if_ne (tgt := 12) hx hb d_Mo_tag_5 (by decide) (fun _ => ?_) (fun h => absurd h (by decide +kernel))
  refine lv_aload_n hx hb d_Mo_tag_12 rfl (lv_at hl 0 rfl) ?_
  refine lv_iload_n hx hb d_Mo_tag_13 rfl (lv_at hl 1 rfl) ?_
  obtain ⟨_, _, _, he2⟩ := rd_M0 hSh
  refine va_calli (va_runV (As := [.int (nI j)]) (rest := [.ref (aw_m ad 0)]) ⟨hx, hb, hml, hown, hG⟩ (k_Mo_wrongTake2 l D g ad G M F N0 j hj hs) (aw_wV 1 hG gw_12_52 gw_12_50 gw_0_10 gw_12_51 gw_p_24 rfl rfl hd_Mo_wrongTake ⟨Nat.le_of_ble_eq_true rfl, Nat.le_of_ble_eq_true rfl⟩) (aw_qV (va_recv hK hP rfl he2) hP hD hSh hU hS) rfl rfl hl.1 rfl (lv_room (Nat.le_of_ble_eq_true rfl)) d_Mo_tag_14 ⟨Nat.le_of_ble_eq_true rfl, Nat.le_of_ble_eq_true rfl⟩) hS (fun _ _ h => h) (fun _ h => h) (fun x3 u8 t8 H locs ht _ hpx3 hB _ _ hS => ?_)
  obtain ⟨L, hP, hD, hSh⟩ := hB
  rw [ht] at hP
  clear ht
  subst hpx3
  obtain ⟨_, _, _, he4⟩ := rd_M0 hSh
  refine va_calli (va_runV (As := [.int (nI 2)]) (rest := []) ⟨hx, hb, hml, hown, hG⟩ (k_Mo_refused1 l D g ad G M F N0 2 (by omega)) (aw_wV 1 hG gw_10_37 gw_10_35 gw_0_10 gw_10_36 gw_p_9 rfl rfl hd_Mo_refused ⟨Nat.le_of_ble_eq_true rfl, Nat.le_of_ble_eq_true rfl⟩) (aw_qV (va_recv hK hP rfl he4) hP hD hSh hU hS) rfl rfl hl.1 rfl (lv_room (Nat.le_of_ble_eq_true rfl)) d_Mo_tag_17 ⟨Nat.le_of_ble_eq_true rfl, Nat.le_of_ble_eq_true rfl⟩) hS (fun _ _ h => h) (fun _ h => h) (fun x5 u8 t8 H locs ht _ hpx5 hB _ _ hS => ?_)
  obtain ⟨L, hP, hD, hSh⟩ := hB
  rw [ht] at hP
  clear ht
  subst hpx5
  refine lv_if_eq (tgt := 25) hx hb d_Mo_tag_20 (by decide) (fun h => absurd h (by decide +kernel)) (fun _ => ?_)
  refine lv_lconst (v := 0) hx hb d_Mo_tag_23 (by decide +kernel) ?_
  exact W.lret hx hb hr (fun t ht hW => ⟨⟨_, (), rfl, trivial, ⟨_, aw_Hr ht hP hD hSh⟩⟩, hS.F ht⟩) hS.2.2 d_Mo_tag_24
abbrev ws_Mo_tag1 : List Cond := Cond.code y_Mo_tag b_Mo_tag 8 (some .long) :: aw_G
abbrev rm_Mo_tag1 : Room := { frames := 4, cells := 0, slots := 0, locals := 94 }
set_option maxHeartbeats 4000000 in
set_option maxRecDepth 100000 in
theorem k_Mo_tag1 (l : Launch) (D : va_G) (g : Nat → ClassId) (ad : Nat → Nat) (G M : Nat → Nat × Nat) (F : Int32) (N0 : Nat) (j : Nat) (hj : j < 4) (hs : (M j).1 = 3 ∧ (M j).2 = 5) : Met l y_Mo_tag ws_Mo_tag1 rm_Mo_tag1 (va_Pc ([.ref (aw_m ad 0), .int (nI j)] : List Value) (aw_B D g ad G M F N0)) (va_Ql (fun r (_ : Unit) => True) (fun (_ : Unit) t => ∃ F' : Int32, aw_H D g ad G M F' N0 t.heap) (aw_Z N0)) 0 0 (aw_Z N0) := by
  refine Met.ofW (cc := b_Mo_tag) (maxL := 8) (ret := (some .long)) (by decide) rfl ?_
  intro p e s m args below meth c s₁ B hml hv
  obtain ⟨rfl, ⟨L, hP, hD, hSh⟩, hU⟩ := hv
  have hx := B.exec
  have hb := B.bytes
  have hr := B.returns
  have hG : ∀ w ∈ aw_G, w.before _ s = true := fun w h => atoms_spec (ws := ws_Mo_tag1) B.pre w (List.mem_cons_of_mem _ h)
  have hown : s.vm.findClass "RuleCiphersModel" = some m.cls := findClass_of_methodNamed B.named
  have hlocks := B.notSynchronized
  have hE := hU.1
  have hK := hE.1
  have hN := hE.2.1
  have hS : va_S (aw_Z N0) s.heap s.heap [] := va_S.rf
  have hl := lv_entry ([.ref (aw_m ad 0), .int (nI j)] : List Value) (n := 8) (Nat.le_of_ble_eq_true rfl)
  rw [lg_entry_eq]
  generalize (lg_sl ([.ref (aw_m ad 0), .int (nI j)] : List Value) ++ List.replicate (8 - (lg_sl ([.ref (aw_m ad 0), .int (nI j)] : List Value)).length) Slot.unset).toArray = ls at hl ⊢
  have hl : lv_has ls 8 [(0, .ref (aw_m ad 0)), (1, .int (nI j))] := hl
  refine lv_aload_n hx hb d_Mo_tag_0 rfl (lv_at hl 0 rfl) ?_
  refine lv_iload_n hx hb d_Mo_tag_1 rfl (lv_at hl 1 rfl) ?_
  refine aw_ci ((va_runS (As := [.int (nI j)]) (rest := [.ref (aw_m ad 0)]) ⟨hx, hb, hml, hown, hG⟩ (k_Mo_isContext1 l j hj) (aw_wS 1 hG gw_10_34 gw_10_32 gw_0_10 gw_10_33 rfl rfl hd_Mo_isContext ⟨Nat.le_of_ble_eq_true rfl, Nat.le_of_ble_eq_true rfl⟩) aw_p0 rfl rfl hl.1 rfl (lv_room (Nat.le_of_ble_eq_true rfl)) d_Mo_tag_2 ⟨Nat.le_of_ble_eq_true rfl, Nat.le_of_ble_eq_true rfl⟩).run) (fun x1 hx1 => ?_)
  subst hx1
  refine lv_if_ne (tgt := 12) hx hb d_Mo_tag_5 (by decide) (fun _ => ?_) (fun h => absurd h (by decide +kernel))
  refine lv_aload_n hx hb d_Mo_tag_12 rfl (lv_at hl 0 rfl) ?_
  refine lv_iload_n hx hb d_Mo_tag_13 rfl (lv_at hl 1 rfl) ?_
  obtain ⟨_, _, _, he2⟩ := rd_M0 hSh
  refine va_calli (va_runV (As := [.int (nI j)]) (rest := [.ref (aw_m ad 0)]) ⟨hx, hb, hml, hown, hG⟩ (k_Mo_wrongTake0 l D g ad G M F N0 j hj hs) (aw_wV 1 hG gw_12_52 gw_12_50 gw_0_10 gw_12_51 gw_p_24 rfl rfl hd_Mo_wrongTake ⟨Nat.le_of_ble_eq_true rfl, Nat.le_of_ble_eq_true rfl⟩) (aw_qV (va_recv hK hP rfl he2) hP hD hSh hU hS) rfl rfl hl.1 rfl (lv_room (Nat.le_of_ble_eq_true rfl)) d_Mo_tag_14 ⟨Nat.le_of_ble_eq_true rfl, Nat.le_of_ble_eq_true rfl⟩) hS (fun _ _ h => h) (fun _ h => h) (fun x3 u8 t8 H locs ht _ hpx3 hB _ _ hS => ?_)
  obtain ⟨L, hP, hD, hSh⟩ := hB
  rw [ht] at hP
  clear ht
  subst hpx3
  obtain ⟨_, _, _, he4⟩ := rd_M0 hSh
  refine va_calli (va_runV (As := [.int (nI 0)]) (rest := []) ⟨hx, hb, hml, hown, hG⟩ (k_Mo_refused0 l D g ad G M F N0) (aw_wV 1 hG gw_10_37 gw_10_35 gw_0_10 gw_10_36 gw_p_9 rfl rfl hd_Mo_refused ⟨Nat.le_of_ble_eq_true rfl, Nat.le_of_ble_eq_true rfl⟩) (aw_qV (va_recv hK hP rfl he4) hP hD hSh hU hS) rfl rfl hl.1 rfl (lv_room (Nat.le_of_ble_eq_true rfl)) d_Mo_tag_17 ⟨Nat.le_of_ble_eq_true rfl, Nat.le_of_ble_eq_true rfl⟩) hS (fun _ _ h => h) (fun _ h => h) (fun x5 u8 t8 H locs ht _ hpx5 hB _ _ hS => ?_)
  obtain ⟨L, hP, hD, hSh⟩ := hB
  rw [ht] at hP
  clear ht
  subst hpx5
  refine lv_if_eq (tgt := 25) hx hb d_Mo_tag_20 (by decide) (fun _ => ?_) (fun h => absurd (by decide +kernel) h)
  refine lv_aload_n hx hb d_Mo_tag_25 rfl (lv_at hl 0 rfl) ?_
  refine lv_iload_n hx hb d_Mo_tag_26 rfl (lv_at hl 1 rfl) ?_
  obtain ⟨_, _, _, he6⟩ := rd_M0 hSh
  refine va_callv (va_runV (As := [.int (nI j)]) (rest := []) ⟨hx, hb, hml, hown, hG⟩ (k_Mo_prepare l D g ad G M (nI 0) N0 j hj) (aw_wV 1 hG gw_11_6 gw_11_4 gw_0_10 gw_11_5 gw_p_12 rfl rfl hd_Mo_prepare ⟨Nat.le_of_ble_eq_true rfl, Nat.le_of_ble_eq_true rfl⟩) (aw_qV (va_recv hK hP rfl he6) hP hD hSh hU hS) rfl rfl hl.1 rfl (lv_room (Nat.le_of_ble_eq_true rfl)) d_Mo_tag_27 ⟨Nat.le_of_ble_eq_true rfl, Nat.le_of_ble_eq_true rfl⟩) hS (fun _ _ h => h) (fun _ h => h) (fun u8 t8 H locs ht _ _ hB _ _ hS => ?_)
  obtain ⟨L, hP, hD, hSh⟩ := hB
  rw [ht] at hP
  clear ht
  refine lv_aload_n hx hb d_Mo_tag_30 rfl (lv_at hl 0 rfl) ?_
  refine lv_lconst (v := 0) hx hb d_Mo_tag_31 (by decide +kernel) ?_
  obtain ⟨_, _, _, he7⟩ := rd_M0 hSh
  refine va_calll (va_runV (As := [.long 0]) (rest := []) ⟨hx, hb, hml, hown, hG⟩ (k_Mo_on l D g ad G M (nI 0) N0 0) (aw_wV 1 hG gw_12_4 gw_12_2 gw_0_10 gw_12_3 gw_p_18 rfl rfl hd_Mo_on ⟨Nat.le_of_ble_eq_true rfl, Nat.le_of_ble_eq_true rfl⟩) (aw_qV (va_recv hK hP rfl he7) hP hD hSh hU hS) rfl rfl hl.1 rfl (lv_room (Nat.le_of_ble_eq_true rfl)) d_Mo_tag_32 ⟨Nat.le_of_ble_eq_true rfl, Nat.le_of_ble_eq_true rfl⟩) hS (fun _ _ h => h) (fun _ h => h) (fun y8 u8 t8 H locs ht _ _ hB _ _ hS => ?_)
  obtain ⟨L, hP, hD, hSh⟩ := hB
  rw [ht] at hP
  clear ht
  refine aw_cl ((va_runS (As := [.long y8]) (rest := []) ⟨hx, hb, hml, hown, hG⟩ (k_Mo_twice l y8) (aw_wS 1 hG gw_12_59 gw_12_57 gw_0_10 gw_12_58 rfl rfl hd_Mo_twice ⟨Nat.le_of_ble_eq_true rfl, Nat.le_of_ble_eq_true rfl⟩) aw_p0 rfl rfl hl.1 rfl (lv_room (Nat.le_of_ble_eq_true rfl)) d_Mo_tag_35 ⟨Nat.le_of_ble_eq_true rfl, Nat.le_of_ble_eq_true rfl⟩).run) (fun y9 hy9 => ?_)
  refine lv_lstore_n hx hb d_Mo_tag_38 rfl hl (by decide) rfl (fun ls hl => ?_)
  have hl : lv_has ls 8 [(2, .long y9), (0, .ref (aw_m ad 0)), (1, .int (nI j))] := hl
  refine lv_aload_n hx hb d_Mo_tag_39 rfl (lv_at hl 1 rfl) ?_
  obtain ⟨x11, o12, hw13, he10⟩ := rd_M0 hSh
  refine va_get (C := R_Mo) (T := T_Mo) (N := 19) (v := .ref (aw_m ad 14)) hx hb hG in_Mo hown hK hP 67 he10 rfl 14 (by decide) (hG _ gw_9_39) (fun _ h => h) rfl d_Mo_tag_40 ?_
  refine lv_iload_n hx hb d_Mo_tag_43 rfl (lv_at hl 2 rfl) ?_
  obtain ⟨f15, he14⟩ := rd_M14 hSh
  refine aw_ild hx hb hK hP 81 0 he14 rfl (k := j) (by omega) (by decide) d_Mo_tag_44 ?_
  refine lv_topi (fun x16 _ => ?_)
  refine lv_bipush (v := nI 8) hx hb d_Mo_tag_45 (by decide +kernel) ?_
  refine lv_icmp_ne (tgt := 61) hx hb d_Mo_tag_47 (by decide) (fun hb17 => ?_) (fun hb17 => ?_)
  · refine lv_aload_n hx hb d_Mo_tag_61 rfl (lv_at hl 1 rfl) ?_
    obtain ⟨x19, o20, hw21, he18⟩ := rd_M0 hSh
    refine va_get (C := R_Mo) (T := T_Mo) (N := 19) (v := .ref (aw_m ad 13)) hx hb hG in_Mo hown hK hP 67 he18 rfl 13 (by decide) (hG _ gw_9_38) (fun _ h => h) rfl d_Mo_tag_62 ?_
    refine lv_iload_n hx hb d_Mo_tag_65 rfl (lv_at hl 2 rfl) ?_
    obtain ⟨f23, he22⟩ := rd_M13 hSh
    refine aw_lld hx hb hK hP 80 1 he22 rfl (k := j) (by omega) (by decide) d_Mo_tag_66 ?_
    refine lv_topl (fun y24 _ => ?_)
    refine lv_ldc2 (v := 128) hx hb hown (hG _ gw_13_2) d_Mo_tag_67 ?_
    refine lv_bipush (v := nI 56) hx hb d_Mo_tag_70 (by decide +kernel) ?_
    refine lv_bipush (v := nI 8) hx hb d_Mo_tag_72 (by decide +kernel) ?_
    refine lv_aload_n hx hb d_Mo_tag_74 rfl (lv_at hl 1 rfl) ?_
    obtain ⟨x26, o27, hw28, he25⟩ := rd_M0 hSh
    refine va_get (C := R_Mo) (T := T_Mo) (N := 19) (v := .ref (aw_m ad 14)) hx hb hG in_Mo hown hK hP 67 he25 rfl 14 (by decide) (hG _ gw_9_39) (fun _ h => h) rfl d_Mo_tag_75 ?_
    refine lv_iload_n hx hb d_Mo_tag_78 rfl (lv_at hl 2 rfl) ?_
    obtain ⟨f30, he29⟩ := rd_M14 hSh
    refine aw_ild hx hb hK hP 81 0 he29 rfl (k := j) (by omega) (by decide) d_Mo_tag_79 ?_
    refine lv_topi (fun x31 _ => ?_)
    refine lv_imul hx hb d_Mo_tag_80 ?_
    refine lv_topi (fun x32 _ => ?_)
    refine lv_isub hx hb d_Mo_tag_81 ?_
    refine lv_topi (fun x33 _ => ?_)
    refine lv_lshl hx hb d_Mo_tag_82 rfl ?_
    refine lv_topl (fun y34 _ => ?_)
    refine lv_lor hx hb d_Mo_tag_83 ?_
    refine lv_topl (fun y35 _ => ?_)
    refine lv_lload_n hx hb d_Mo_tag_84 rfl (lv_at hl 0 rfl) ?_
    refine aw_cl ((va_runS (As := [.long y9]) (rest := [.long y35]) ⟨hx, hb, hml, hown, hG⟩ (k_Mo_twice l y9) (aw_wS 1 hG gw_12_59 gw_12_57 gw_0_10 gw_12_58 rfl rfl hd_Mo_twice ⟨Nat.le_of_ble_eq_true rfl, Nat.le_of_ble_eq_true rfl⟩) aw_p0 rfl rfl hl.1 rfl (lv_room (Nat.le_of_ble_eq_true rfl)) d_Mo_tag_85 ⟨Nat.le_of_ble_eq_true rfl, Nat.le_of_ble_eq_true rfl⟩).run) (fun y36 hy36 => ?_)
    refine lv_lxor hx hb d_Mo_tag_88 ?_
    refine lv_topl (fun y37 _ => ?_)
    refine lv_lstore hx hb d_Mo_tag_89 hl (by decide) rfl (fun ls hl => ?_)
    have hl : lv_has ls 8 [(4, .long y37), (2, .long y9), (0, .ref (aw_m ad 0)), (1, .int (nI j))] := hl
    refine lv_aload_n hx hb d_Mo_tag_91 rfl (lv_at hl 2 rfl) ?_
    refine lv_aload_n hx hb d_Mo_tag_92 rfl (lv_at hl 2 rfl) ?_
    obtain ⟨x39, o40, hw41, he38⟩ := rd_M0 hSh
    refine va_get (C := R_Mo) (T := T_Mo) (N := 19) (v := .ref (aw_m ad 12)) hx hb hG in_Mo hown hK hP 67 he38 rfl 12 (by decide) (hG _ gw_9_37) (fun _ h => h) rfl d_Mo_tag_93 ?_
    refine lv_iload_n hx hb d_Mo_tag_96 rfl (lv_at hl 3 rfl) ?_
    obtain ⟨f43, he42⟩ := rd_M12 hSh
    refine aw_lld hx hb hK hP 79 1 he42 rfl (k := j) (by omega) (by decide) d_Mo_tag_97 ?_
    refine lv_topl (fun y44 _ => ?_)
    refine lv_lload hx hb d_Mo_tag_98 (lv_at hl 0 rfl) ?_
    refine lv_lxor hx hb d_Mo_tag_100 ?_
    refine lv_topl (fun y45 _ => ?_)
    obtain ⟨_, _, _, he46⟩ := rd_M0 hSh
    refine va_calll (va_runV (As := [.long y45]) (rest := []) ⟨hx, hb, hml, hown, hG⟩ (k_Mo_on l D g ad G M (nI 0) N0 y45) (aw_wV 1 hG gw_12_4 gw_12_2 gw_0_10 gw_12_3 gw_p_18 rfl rfl hd_Mo_on ⟨Nat.le_of_ble_eq_true rfl, Nat.le_of_ble_eq_true rfl⟩) (aw_qV (va_recv hK hP rfl he46) hP hD hSh hU hS) rfl rfl hl.1 rfl (lv_room (Nat.le_of_ble_eq_true rfl)) d_Mo_tag_101 ⟨Nat.le_of_ble_eq_true rfl, Nat.le_of_ble_eq_true rfl⟩) hS (fun _ _ h => h) (fun _ h => h) (fun y47 u8 t8 H locs ht _ _ hB _ _ hS => ?_)
    obtain ⟨L, hP, hD, hSh⟩ := hB
    rw [ht] at hP
    clear ht
    refine lv_lstore hx hb d_Mo_tag_104 hl (by decide) rfl (fun ls hl => ?_)
    have hl : lv_has ls 8 [(6, .long y47), (4, .long y37), (2, .long y9), (0, .ref (aw_m ad 0)), (1, .int (nI j))] := hl
    refine lv_aload_n hx hb d_Mo_tag_106 rfl (lv_at hl 3 rfl) ?_
    refine lv_iload_n hx hb d_Mo_tag_107 rfl (lv_at hl 4 rfl) ?_
    obtain ⟨_, _, _, he48⟩ := rd_M0 hSh
    refine va_callv (va_runV (As := [.int (nI j)]) (rest := []) ⟨hx, hb, hml, hown, hG⟩ (k_Mo_empty l D g ad G M (nI 0) N0 j hj) (aw_wV 1 hG gw_10_51 gw_10_49 gw_0_10 gw_10_50 gw_p_11 rfl rfl hd_Mo_empty ⟨Nat.le_of_ble_eq_true rfl, Nat.le_of_ble_eq_true rfl⟩) (aw_qV (va_recv hK hP rfl he48) hP hD hSh hU hS) rfl rfl hl.1 rfl (lv_room (Nat.le_of_ble_eq_true rfl)) d_Mo_tag_108 ⟨Nat.le_of_ble_eq_true rfl, Nat.le_of_ble_eq_true rfl⟩) hS (fun _ _ h => h) (fun _ h => h) (fun u8 t8 H locs ht _ _ hB _ _ hS => ?_)
    obtain ⟨L, hP, hD, hSh⟩ := hB
    rw [ht] at hP
    clear ht
    refine lv_lload hx hb d_Mo_tag_111 (lv_at hl 0 rfl) ?_
    exact W.lret hx hb hr (fun t ht hW => ⟨⟨_, (), rfl, trivial, ⟨_, aw_Hr ht hP hD hSh⟩⟩, hS.F ht⟩) hS.2.2 d_Mo_tag_113
  · refine lv_aload_n hx hb d_Mo_tag_50 rfl (lv_at hl 1 rfl) ?_
    obtain ⟨x50, o51, hw52, he49⟩ := rd_M0 hSh
    refine va_get (C := R_Mo) (T := T_Mo) (N := 19) (v := .ref (aw_m ad 13)) hx hb hG in_Mo hown hK hP 67 he49 rfl 13 (by decide) (hG _ gw_9_38) (fun _ h => h) rfl d_Mo_tag_51 ?_
    refine lv_iload_n hx hb d_Mo_tag_54 rfl (lv_at hl 2 rfl) ?_
    obtain ⟨f54, he53⟩ := rd_M13 hSh
    refine aw_lld hx hb hK hP 80 1 he53 rfl (k := j) (by omega) (by decide) d_Mo_tag_55 ?_
    refine lv_topl (fun y55 _ => ?_)
    refine lv_lload_n hx hb d_Mo_tag_56 rfl (lv_at hl 0 rfl) ?_
    refine lv_lxor hx hb d_Mo_tag_57 ?_
    refine lv_topl (fun y56 _ => ?_)
    refine lv_goto (tgt := 89) hx hb d_Mo_tag_58 (by decide) ?_
    refine lv_lstore hx hb d_Mo_tag_89 hl (by decide) rfl (fun ls hl => ?_)
    have hl : lv_has ls 8 [(4, .long y56), (2, .long y9), (0, .ref (aw_m ad 0)), (1, .int (nI j))] := hl
    refine lv_aload_n hx hb d_Mo_tag_91 rfl (lv_at hl 2 rfl) ?_
    refine lv_aload_n hx hb d_Mo_tag_92 rfl (lv_at hl 2 rfl) ?_
    obtain ⟨x58, o59, hw60, he57⟩ := rd_M0 hSh
    refine va_get (C := R_Mo) (T := T_Mo) (N := 19) (v := .ref (aw_m ad 12)) hx hb hG in_Mo hown hK hP 67 he57 rfl 12 (by decide) (hG _ gw_9_37) (fun _ h => h) rfl d_Mo_tag_93 ?_
    refine lv_iload_n hx hb d_Mo_tag_96 rfl (lv_at hl 3 rfl) ?_
    obtain ⟨f62, he61⟩ := rd_M12 hSh
    refine aw_lld hx hb hK hP 79 1 he61 rfl (k := j) (by omega) (by decide) d_Mo_tag_97 ?_
    refine lv_topl (fun y63 _ => ?_)
    refine lv_lload hx hb d_Mo_tag_98 (lv_at hl 0 rfl) ?_
    refine lv_lxor hx hb d_Mo_tag_100 ?_
    refine lv_topl (fun y64 _ => ?_)
    obtain ⟨_, _, _, he65⟩ := rd_M0 hSh
    refine va_calll (va_runV (As := [.long y64]) (rest := []) ⟨hx, hb, hml, hown, hG⟩ (k_Mo_on l D g ad G M (nI 0) N0 y64) (aw_wV 1 hG gw_12_4 gw_12_2 gw_0_10 gw_12_3 gw_p_18 rfl rfl hd_Mo_on ⟨Nat.le_of_ble_eq_true rfl, Nat.le_of_ble_eq_true rfl⟩) (aw_qV (va_recv hK hP rfl he65) hP hD hSh hU hS) rfl rfl hl.1 rfl (lv_room (Nat.le_of_ble_eq_true rfl)) d_Mo_tag_101 ⟨Nat.le_of_ble_eq_true rfl, Nat.le_of_ble_eq_true rfl⟩) hS (fun _ _ h => h) (fun _ h => h) (fun y66 u8 t8 H locs ht _ _ hB _ _ hS => ?_)
    obtain ⟨L, hP, hD, hSh⟩ := hB
    rw [ht] at hP
    clear ht
    refine lv_lstore hx hb d_Mo_tag_104 hl (by decide) rfl (fun ls hl => ?_)
    have hl : lv_has ls 8 [(6, .long y66), (4, .long y56), (2, .long y9), (0, .ref (aw_m ad 0)), (1, .int (nI j))] := hl
    refine lv_aload_n hx hb d_Mo_tag_106 rfl (lv_at hl 3 rfl) ?_
    refine lv_iload_n hx hb d_Mo_tag_107 rfl (lv_at hl 4 rfl) ?_
    obtain ⟨_, _, _, he67⟩ := rd_M0 hSh
    refine va_callv (va_runV (As := [.int (nI j)]) (rest := []) ⟨hx, hb, hml, hown, hG⟩ (k_Mo_empty l D g ad G M (nI 0) N0 j hj) (aw_wV 1 hG gw_10_51 gw_10_49 gw_0_10 gw_10_50 gw_p_11 rfl rfl hd_Mo_empty ⟨Nat.le_of_ble_eq_true rfl, Nat.le_of_ble_eq_true rfl⟩) (aw_qV (va_recv hK hP rfl he67) hP hD hSh hU hS) rfl rfl hl.1 rfl (lv_room (Nat.le_of_ble_eq_true rfl)) d_Mo_tag_108 ⟨Nat.le_of_ble_eq_true rfl, Nat.le_of_ble_eq_true rfl⟩) hS (fun _ _ h => h) (fun _ h => h) (fun u8 t8 H locs ht _ _ hB _ _ hS => ?_)
    obtain ⟨L, hP, hD, hSh⟩ := hB
    rw [ht] at hP
    clear ht
    refine lv_lload hx hb d_Mo_tag_111 (lv_at hl 0 rfl) ?_
    exact W.lret hx hb hr (fun t ht hW => ⟨⟨_, (), rfl, trivial, ⟨_, aw_Hr ht hP hD hSh⟩⟩, hS.F ht⟩) hS.2.2 d_Mo_tag_113
