noncomputable def v_Mo_quarterV (zL : Nat → Nat → Int64) (j : Nat) (i : Int32) : Int32 := (if (nI 2) ≤ i then (if (i - i / (nI 2) * (nI 2)) = 0 then v_Mo_upperV (zL 5 j) else (Int64.toInt32 (zL 5 j))) else (if (i - i / (nI 2) * (nI 2)) = 0 then v_Mo_upperV (zL 4 j) else (Int64.toInt32 (zL 4 j))))
abbrev ws_Mo_quarterV : List Cond := Cond.code y_Mo_quarter b_Mo_quarter 5 (some .int) :: aw_G
abbrev rm_Mo_quarterV : Room := { frames := 1, cells := 0, slots := 0, locals := 21 }
set_option maxHeartbeats 4000000 in
set_option maxRecDepth 100000 in
theorem k_Mo_quarterV (l : Launch) (D : va_G) (g : Nat → ClassId) (ad : Nat → Nat) (N0 : Nat) (zG : Nat → Nat × Nat) (zO : Nat → Nat) (zX : Nat → Nat → Int64) (zY : Nat → Nat → Int32) (zA : Nat → Nat → Nat → Int32) (zB : Nat → Int32) (zM : Nat → Nat × Nat) (zI : Nat → Nat → Int32) (zL : Nat → Nat → Int64) (zK : Int32) (zN : Nat) (zF : Int32) (zQ : Int64) (j : Nat) (i : Int32) (hj : j < 4) : Met l y_Mo_quarter ws_Mo_quarterV rm_Mo_quarterV (va_Pc ([.ref (aw_m ad 0), .int (nI j), .int i] : List Value) (ag_B D g N0 (az_Sh g ad zG zO zX zY zA zB zM zI zL zK zN zF zQ))) (va_Qi (fun r (_ : Unit) => r = v_Mo_quarterV zL j i) (fun (_ : Unit) t => ag_H D N0 (az_Sh g ad zG zO zX zY zA zB zM zI zL zK zN zF zQ) t.heap) (aw_Z N0)) 0 0 (aw_Z N0) := by
  refine Met.ofW (cc := b_Mo_quarter) (maxL := 5) (ret := (some .int)) (by decide) rfl ?_
  intro p e s m args below meth c s₁ B hml hv
  obtain ⟨rfl, ⟨L, hP, hD, hSh⟩, hU⟩ := hv
  have hx := B.exec
  have hb := B.bytes
  have hr := B.returns
  have hG : ∀ w ∈ aw_G, w.before _ s = true := fun w h => atoms_spec (ws := ws_Mo_quarterV) B.pre w (List.mem_cons_of_mem _ h)
  have hown : s.vm.findClass "RuleCiphersModel" = some m.cls := findClass_of_methodNamed B.named
  have hlocks := B.notSynchronized
  have hE := hU.1
  have hK := hE.1
  have hN := hE.2.1
  have hS : va_S (aw_Z N0) s.heap s.heap [] := va_S.rf
  have hl := lv_entry ([.ref (aw_m ad 0), .int (nI j), .int i] : List Value) (n := 5) (Nat.le_of_ble_eq_true rfl)
  rw [lg_entry_eq]
  generalize (lg_sl ([.ref (aw_m ad 0), .int (nI j), .int i] : List Value) ++ List.replicate (5 - (lg_sl ([.ref (aw_m ad 0), .int (nI j), .int i] : List Value)).length) Slot.unset).toArray = ls at hl ⊢
  have hl : lv_has ls 5 [(0, .ref (aw_m ad 0)), (1, .int (nI j)), (2, .int i)] := hl
  refine lv_iload_n hx hb d_Mo_quarter_0 rfl (lv_at hl 2 rfl) ?_
  refine lv_iconst (v := nI 2) hx hb d_Mo_quarter_1 (by decide +kernel) ?_
  refine lv_icmp_ge (tgt := 14) hx hb d_Mo_quarter_2 (by decide) (fun hb1 => ?_) (fun hb1 => ?_)
  · refine lv_aload_n hx hb d_Mo_quarter_14 rfl (lv_at hl 0 rfl) ?_
    obtain ⟨hsd3, he2⟩ := zr_M0 hSh
    refine va_get (C := R_Mo) (T := T_Mo) (N := 19) (v := .ref (aw_m ad 5)) hx hb hG in_Mo hown hK hP 67 he2 rfl 5 (by decide) (hG _ gw_9_30) (fun _ h => h) rfl d_Mo_quarter_15 ?_
    clear he2
    refine lv_iload_n hx hb d_Mo_quarter_18 rfl (lv_at hl 1 rfl) ?_
    have he4 := zr_M5 hSh
    refine aw_lld hx hb hK hP 72 1 he4 rfl (k := j) (by omega) (by decide) d_Mo_quarter_19 ?_
    clear he4
    refine ag_topl (fun y5 ey5 => ?_)
    refine lv_lstore_n hx hb d_Mo_quarter_20 rfl hl (by decide) rfl (fun ls hl => ?_)
    have hl : lv_has ls 5 [(3, .long y5), (0, .ref (aw_m ad 0)), (1, .int (nI j)), (2, .int i)] := hl
    refine lv_iload_n hx hb d_Mo_quarter_21 rfl (lv_at hl 3 rfl) ?_
    refine lv_iconst (v := nI 2) hx hb d_Mo_quarter_22 (by decide +kernel) ?_
    refine lv_irem hx hb d_Mo_quarter_23 (by decide +kernel) ?_
    refine ag_topi (fun x6 ex6 => ?_)
    refine lv_if_ne (tgt := 34) hx hb d_Mo_quarter_24 (by decide) (fun hb7 => ?_) (fun hb7 => ?_)
    · refine lv_lload_n hx hb d_Mo_quarter_34 rfl (lv_at hl 0 rfl) ?_
      refine lv_l2i hx hb d_Mo_quarter_35 rfl ?_
      refine ag_topi (fun x8 ex8 => ?_)
      exact W.iret hx hb hr (fun t ht hW => ⟨⟨_, (), rfl, (by subst ex8 ex6 ey5; unfold v_Mo_quarterV; rw [if_pos hb1, if_neg hb7]), ag_Hr ht hP hD hSh⟩, hS.F ht⟩) hS.2.2 d_Mo_quarter_36
    · refine lv_lload_n hx hb d_Mo_quarter_27 rfl (lv_at hl 0 rfl) ?_
      refine aw_ci ((va_runS (As := [.long y5]) (rest := []) ⟨hx, hb, hml, hown, hG⟩ (k_Mo_upperV l y5) (aw_wS 1 hG gw_11_17 gw_11_15 gw_0_10 gw_11_16 rfl rfl hd_Mo_upper ⟨Nat.le_of_ble_eq_true rfl, Nat.le_of_ble_eq_true rfl⟩) aw_p0 rfl rfl hl.1 rfl (lv_room (Nat.le_of_ble_eq_true rfl)) d_Mo_quarter_28 ⟨Nat.le_of_ble_eq_true rfl, Nat.le_of_ble_eq_true rfl⟩).run) (fun x9 ex9 => ?_)
      have ex9 := ex9.symm
      refine lv_goto (tgt := 36) hx hb d_Mo_quarter_31 (by decide) ?_
      exact W.iret hx hb hr (fun t ht hW => ⟨⟨_, (), rfl, (by subst ex9 ex6 ey5; unfold v_Mo_quarterV; rw [if_pos hb1, if_pos hb7]), ag_Hr ht hP hD hSh⟩, hS.F ht⟩) hS.2.2 d_Mo_quarter_36
  · refine lv_aload_n hx hb d_Mo_quarter_5 rfl (lv_at hl 0 rfl) ?_
    obtain ⟨hsd11, he10⟩ := zr_M0 hSh
    refine va_get (C := R_Mo) (T := T_Mo) (N := 19) (v := .ref (aw_m ad 4)) hx hb hG in_Mo hown hK hP 67 he10 rfl 4 (by decide) (hG _ gw_9_29) (fun _ h => h) rfl d_Mo_quarter_6 ?_
    clear he10
    refine lv_iload_n hx hb d_Mo_quarter_9 rfl (lv_at hl 1 rfl) ?_
    have he12 := zr_M4 hSh
    refine aw_lld hx hb hK hP 71 1 he12 rfl (k := j) (by omega) (by decide) d_Mo_quarter_10 ?_
    clear he12
    refine ag_topl (fun y13 ey13 => ?_)
    refine lv_goto (tgt := 20) hx hb d_Mo_quarter_11 (by decide) ?_
    refine lv_lstore_n hx hb d_Mo_quarter_20 rfl hl (by decide) rfl (fun ls hl => ?_)
    have hl : lv_has ls 5 [(3, .long y13), (0, .ref (aw_m ad 0)), (1, .int (nI j)), (2, .int i)] := hl
    refine lv_iload_n hx hb d_Mo_quarter_21 rfl (lv_at hl 3 rfl) ?_
    refine lv_iconst (v := nI 2) hx hb d_Mo_quarter_22 (by decide +kernel) ?_
    refine lv_irem hx hb d_Mo_quarter_23 (by decide +kernel) ?_
    refine ag_topi (fun x14 ex14 => ?_)
    refine lv_if_ne (tgt := 34) hx hb d_Mo_quarter_24 (by decide) (fun hb15 => ?_) (fun hb15 => ?_)
    · refine lv_lload_n hx hb d_Mo_quarter_34 rfl (lv_at hl 0 rfl) ?_
      refine lv_l2i hx hb d_Mo_quarter_35 rfl ?_
      refine ag_topi (fun x16 ex16 => ?_)
      exact W.iret hx hb hr (fun t ht hW => ⟨⟨_, (), rfl, (by subst ex16 ex14 ey13; unfold v_Mo_quarterV; rw [if_neg hb1, if_neg hb15]), ag_Hr ht hP hD hSh⟩, hS.F ht⟩) hS.2.2 d_Mo_quarter_36
    · refine lv_lload_n hx hb d_Mo_quarter_27 rfl (lv_at hl 0 rfl) ?_
      refine aw_ci ((va_runS (As := [.long y13]) (rest := []) ⟨hx, hb, hml, hown, hG⟩ (k_Mo_upperV l y13) (aw_wS 1 hG gw_11_17 gw_11_15 gw_0_10 gw_11_16 rfl rfl hd_Mo_upper ⟨Nat.le_of_ble_eq_true rfl, Nat.le_of_ble_eq_true rfl⟩) aw_p0 rfl rfl hl.1 rfl (lv_room (Nat.le_of_ble_eq_true rfl)) d_Mo_quarter_28 ⟨Nat.le_of_ble_eq_true rfl, Nat.le_of_ble_eq_true rfl⟩).run) (fun x17 ex17 => ?_)
      have ex17 := ex17.symm
      refine lv_goto (tgt := 36) hx hb d_Mo_quarter_31 (by decide) ?_
      exact W.iret hx hb hr (fun t ht hW => ⟨⟨_, (), rfl, (by subst ex17 ex14 ey13; unfold v_Mo_quarterV; rw [if_neg hb1, if_pos hb15]), ag_Hr ht hP hD hSh⟩, hS.F ht⟩) hS.2.2 d_Mo_quarter_36
noncomputable def v_Mo_prepareZeroV_L16 (zI : Nat → Nat → Int32) (zL : Nat → Nat → Int64) (j : Nat) (t : Nat) : (Nat → Nat → Int32) := Nat.rec (motive := fun _ => (Nat → Nat → Int32)) (az_v zI 15 0 (-1209970333)) (fun t s => az_v (s) 15 (1 + t) (((s) 15 ((1 + t) - 1)) + (-1640531527))) t
theorem v_Mo_prepareZeroV_L16_z (zI : Nat → Nat → Int32) (zL : Nat → Nat → Int64) (j : Nat) : v_Mo_prepareZeroV_L16 zI zL j 0 = (az_v zI 15 0 (-1209970333)) := rfl
theorem v_Mo_prepareZeroV_L16_s (zI : Nat → Nat → Int32) (zL : Nat → Nat → Int64) (j : Nat) (t : Nat) : v_Mo_prepareZeroV_L16 zI zL j (t + 1) = az_v ((v_Mo_prepareZeroV_L16 zI zL j t)) 15 (1 + t) ((((v_Mo_prepareZeroV_L16 zI zL j t)) 15 ((1 + t) - 1)) + (-1640531527)) := rfl
noncomputable def v_Mo_prepareZeroV_L47 (zI : Nat → Nat → Int32) (zL : Nat → Nat → Int64) (j : Nat) (t : Nat) : (Nat → Nat → Int32) := Nat.rec (motive := fun _ => (Nat → Nat → Int32)) ((v_Mo_prepareZeroV_L16 zI zL j 25)) (fun t s => az_v (s) 16 t (v_Mo_swappedV (v_Mo_quarterV zL j (nI t)))) t
theorem v_Mo_prepareZeroV_L47_z (zI : Nat → Nat → Int32) (zL : Nat → Nat → Int64) (j : Nat) : v_Mo_prepareZeroV_L47 zI zL j 0 = ((v_Mo_prepareZeroV_L16 zI zL j 25)) := rfl
theorem v_Mo_prepareZeroV_L47_s (zI : Nat → Nat → Int32) (zL : Nat → Nat → Int64) (j : Nat) (t : Nat) : v_Mo_prepareZeroV_L47 zI zL j (t + 1) = az_v ((v_Mo_prepareZeroV_L47 zI zL j t)) 16 t (v_Mo_swappedV (v_Mo_quarterV zL j (nI t))) := rfl
noncomputable def v_Mo_prepareZeroV_L80 (zI : Nat → Nat → Int32) (zL : Nat → Nat → Int64) (j : Nat) (t : Nat) : Int32 × Int32 × (Nat → Nat → Int32) := Nat.rec (motive := fun _ => Int32 × Int32 × (Nat → Nat → Int32)) (nI 0, nI 0, (v_Mo_prepareZeroV_L47 zI zL j 4)) (fun t s => ((az_v (s.2.2) 15 (t % 26) (v_Mo_turnV ((((s.2.2) 15 (t % 26)) + (s.1)) + (s.2.1)) (nI 3))) 15 (t % 26), (az_v (az_v (s.2.2) 15 (t % 26) (v_Mo_turnV ((((s.2.2) 15 (t % 26)) + (s.1)) + (s.2.1)) (nI 3))) 16 (t % 4) (v_Mo_turnV ((((az_v (s.2.2) 15 (t % 26) (v_Mo_turnV ((((s.2.2) 15 (t % 26)) + (s.1)) + (s.2.1)) (nI 3))) 16 (t % 4)) + ((az_v (s.2.2) 15 (t % 26) (v_Mo_turnV ((((s.2.2) 15 (t % 26)) + (s.1)) + (s.2.1)) (nI 3))) 15 (t % 26))) + (s.2.1)) (((az_v (s.2.2) 15 (t % 26) (v_Mo_turnV ((((s.2.2) 15 (t % 26)) + (s.1)) + (s.2.1)) (nI 3))) 15 (t % 26)) + (s.2.1)))) 16 (t % 4), az_v (az_v (s.2.2) 15 (t % 26) (v_Mo_turnV ((((s.2.2) 15 (t % 26)) + (s.1)) + (s.2.1)) (nI 3))) 16 (t % 4) (v_Mo_turnV ((((az_v (s.2.2) 15 (t % 26) (v_Mo_turnV ((((s.2.2) 15 (t % 26)) + (s.1)) + (s.2.1)) (nI 3))) 16 (t % 4)) + ((az_v (s.2.2) 15 (t % 26) (v_Mo_turnV ((((s.2.2) 15 (t % 26)) + (s.1)) + (s.2.1)) (nI 3))) 15 (t % 26))) + (s.2.1)) (((az_v (s.2.2) 15 (t % 26) (v_Mo_turnV ((((s.2.2) 15 (t % 26)) + (s.1)) + (s.2.1)) (nI 3))) 15 (t % 26)) + (s.2.1))))) t
theorem v_Mo_prepareZeroV_L80_z (zI : Nat → Nat → Int32) (zL : Nat → Nat → Int64) (j : Nat) : v_Mo_prepareZeroV_L80 zI zL j 0 = (nI 0, nI 0, (v_Mo_prepareZeroV_L47 zI zL j 4)) := rfl
theorem v_Mo_prepareZeroV_L80_s (zI : Nat → Nat → Int32) (zL : Nat → Nat → Int64) (j : Nat) (t : Nat) : v_Mo_prepareZeroV_L80 zI zL j (t + 1) = ((az_v ((v_Mo_prepareZeroV_L80 zI zL j t).2.2) 15 (t % 26) (v_Mo_turnV (((((v_Mo_prepareZeroV_L80 zI zL j t).2.2) 15 (t % 26)) + ((v_Mo_prepareZeroV_L80 zI zL j t).1)) + ((v_Mo_prepareZeroV_L80 zI zL j t).2.1)) (nI 3))) 15 (t % 26), (az_v (az_v ((v_Mo_prepareZeroV_L80 zI zL j t).2.2) 15 (t % 26) (v_Mo_turnV (((((v_Mo_prepareZeroV_L80 zI zL j t).2.2) 15 (t % 26)) + ((v_Mo_prepareZeroV_L80 zI zL j t).1)) + ((v_Mo_prepareZeroV_L80 zI zL j t).2.1)) (nI 3))) 16 (t % 4) (v_Mo_turnV ((((az_v ((v_Mo_prepareZeroV_L80 zI zL j t).2.2) 15 (t % 26) (v_Mo_turnV (((((v_Mo_prepareZeroV_L80 zI zL j t).2.2) 15 (t % 26)) + ((v_Mo_prepareZeroV_L80 zI zL j t).1)) + ((v_Mo_prepareZeroV_L80 zI zL j t).2.1)) (nI 3))) 16 (t % 4)) + ((az_v ((v_Mo_prepareZeroV_L80 zI zL j t).2.2) 15 (t % 26) (v_Mo_turnV (((((v_Mo_prepareZeroV_L80 zI zL j t).2.2) 15 (t % 26)) + ((v_Mo_prepareZeroV_L80 zI zL j t).1)) + ((v_Mo_prepareZeroV_L80 zI zL j t).2.1)) (nI 3))) 15 (t % 26))) + ((v_Mo_prepareZeroV_L80 zI zL j t).2.1)) (((az_v ((v_Mo_prepareZeroV_L80 zI zL j t).2.2) 15 (t % 26) (v_Mo_turnV (((((v_Mo_prepareZeroV_L80 zI zL j t).2.2) 15 (t % 26)) + ((v_Mo_prepareZeroV_L80 zI zL j t).1)) + ((v_Mo_prepareZeroV_L80 zI zL j t).2.1)) (nI 3))) 15 (t % 26)) + ((v_Mo_prepareZeroV_L80 zI zL j t).2.1)))) 16 (t % 4), az_v (az_v ((v_Mo_prepareZeroV_L80 zI zL j t).2.2) 15 (t % 26) (v_Mo_turnV (((((v_Mo_prepareZeroV_L80 zI zL j t).2.2) 15 (t % 26)) + ((v_Mo_prepareZeroV_L80 zI zL j t).1)) + ((v_Mo_prepareZeroV_L80 zI zL j t).2.1)) (nI 3))) 16 (t % 4) (v_Mo_turnV ((((az_v ((v_Mo_prepareZeroV_L80 zI zL j t).2.2) 15 (t % 26) (v_Mo_turnV (((((v_Mo_prepareZeroV_L80 zI zL j t).2.2) 15 (t % 26)) + ((v_Mo_prepareZeroV_L80 zI zL j t).1)) + ((v_Mo_prepareZeroV_L80 zI zL j t).2.1)) (nI 3))) 16 (t % 4)) + ((az_v ((v_Mo_prepareZeroV_L80 zI zL j t).2.2) 15 (t % 26) (v_Mo_turnV (((((v_Mo_prepareZeroV_L80 zI zL j t).2.2) 15 (t % 26)) + ((v_Mo_prepareZeroV_L80 zI zL j t).1)) + ((v_Mo_prepareZeroV_L80 zI zL j t).2.1)) (nI 3))) 15 (t % 26))) + ((v_Mo_prepareZeroV_L80 zI zL j t).2.1)) (((az_v ((v_Mo_prepareZeroV_L80 zI zL j t).2.2) 15 (t % 26) (v_Mo_turnV (((((v_Mo_prepareZeroV_L80 zI zL j t).2.2) 15 (t % 26)) + ((v_Mo_prepareZeroV_L80 zI zL j t).1)) + ((v_Mo_prepareZeroV_L80 zI zL j t).2.1)) (nI 3))) 15 (t % 26)) + ((v_Mo_prepareZeroV_L80 zI zL j t).2.1)))) := rfl
noncomputable def v_Mo_prepareZeroV_zI (zI : Nat → Nat → Int32) (zL : Nat → Nat → Int64) (j : Nat) : Nat → Nat → Int32 := (v_Mo_prepareZeroV_L80 zI zL j 78).2.2
abbrev ws_Mo_prepareZeroV : List Cond := Cond.code y_Mo_prepareZero b_Mo_prepareZero 7 none :: aw_G
abbrev rm_Mo_prepareZeroV : Room := { frames := 2, cells := 0, slots := 0, locals := 45 }
set_option maxHeartbeats 4000000 in
set_option maxRecDepth 100000 in
theorem k_Mo_prepareZeroV (l : Launch) (D : va_G) (g : Nat → ClassId) (ad : Nat → Nat) (N0 : Nat) (zG : Nat → Nat × Nat) (zO : Nat → Nat) (zX : Nat → Nat → Int64) (zY : Nat → Nat → Int32) (zA : Nat → Nat → Nat → Int32) (zB : Nat → Int32) (zM : Nat → Nat × Nat) (zI : Nat → Nat → Int32) (zL : Nat → Nat → Int64) (zK : Int32) (zN : Nat) (zF : Int32) (zQ : Int64) (j : Nat) (hj : j < 4) : Met l y_Mo_prepareZero ws_Mo_prepareZeroV rm_Mo_prepareZeroV (va_Pc ([.ref (aw_m ad 0), .int (nI j)] : List Value) (ag_B D g N0 (az_Sh g ad zG zO zX zY zA zB zM zI zL zK zN zF zQ))) (va_Qv (fun (_ : Unit) => True) (fun (_ : Unit) t => ag_H D N0 (az_Sh g ad zG zO zX zY zA zB zM (v_Mo_prepareZeroV_zI zI zL j) zL zK 26 zF zQ) t.heap) (aw_Z N0)) 0 0 (aw_Z N0) := by
  refine Met.ofW (cc := b_Mo_prepareZero) (maxL := 7) (ret := none) (by decide) rfl ?_
  intro p e s m args below meth c s₁ B hml hv
  obtain ⟨rfl, ⟨L, hP, hD, hSh⟩, hU⟩ := hv
  have hx := B.exec
  have hb := B.bytes
  have hr := B.returns
  have hG : ∀ w ∈ aw_G, w.before _ s = true := fun w h => atoms_spec (ws := ws_Mo_prepareZeroV) B.pre w (List.mem_cons_of_mem _ h)
  have hown : s.vm.findClass "RuleCiphersModel" = some m.cls := findClass_of_methodNamed B.named
  have hlocks := B.notSynchronized
  have hE := hU.1
  have hK := hE.1
  have hN := hE.2.1
  have hS : va_S (aw_Z N0) s.heap s.heap [] := va_S.rf
  have hl := lv_entry ([.ref (aw_m ad 0), .int (nI j)] : List Value) (n := 7) (Nat.le_of_ble_eq_true rfl)
  rw [lg_entry_eq]
  generalize (lg_sl ([.ref (aw_m ad 0), .int (nI j)] : List Value) ++ List.replicate (7 - (lg_sl ([.ref (aw_m ad 0), .int (nI j)] : List Value)).length) Slot.unset).toArray = ls at hl ⊢
  have hl : lv_has ls 7 [(0, .ref (aw_m ad 0)), (1, .int (nI j))] := hl
  refine lv_aload_n hx hb d_Mo_prepareZero_0 rfl (lv_at hl 0 rfl) ?_
  refine lv_bipush (v := nI 26) hx hb d_Mo_prepareZero_1 (by decide +kernel) ?_
  obtain ⟨hsd2, he1⟩ := zr_M0 hSh
  refine ag_put (v := .int (nI 26)) (ty := .int) (C := R_Mo) (T := T_Mo) (N := 19) hx hb hG in_Mo t_Mo t_Mo_ok n_Mo hown hK hP hD hS 67 he1 rfl 16 (by decide) (hG _ gw_9_41) (fun _ h => h) rfl (by decide +kernel) rfl rfl (Nat.le_of_ble_eq_true rfl) d_Mo_prepareZero_3 (zw_N hSh 26 (by omega)) ?_
  clear hP hD hSh hS he1
  intro H locs L hP hD hSh hS
  refine lv_aload_n hx hb d_Mo_prepareZero_6 rfl (lv_at hl 0 rfl) ?_
  obtain ⟨hsd4, he3⟩ := zr_M0 hSh
  refine va_get (C := R_Mo) (T := T_Mo) (N := 19) (v := .ref (aw_m ad 15)) hx hb hG in_Mo hown hK hP 67 he3 rfl 17 (by decide) (hG _ gw_9_42) (fun _ h => h) rfl d_Mo_prepareZero_7 ?_
  clear he3
  refine lv_iconst (v := nI 0) hx hb d_Mo_prepareZero_10 (by decide +kernel) ?_
  refine lv_ldc (v := (-1209970333)) hx hb hown (hG _ gw_11_10) d_Mo_prepareZero_11 ?_
  have he5 := zr_M15 hSh
  refine ag_ist hx hb hK hP hD hS 82 0 he5 rfl (k := 0) (by omega) (by decide) d_Mo_prepareZero_13 (zw_I15w hSh 0 ((-1209970333))) ?_
  clear hP hD hSh hS he5
  intro H locs L hP hD hSh hS
  obtain ⟨zI6, ezI6⟩ : ∃ z : Nat → Nat → Int32, az_v zI 15 0 ((-1209970333)) = z := ⟨_, rfl⟩
  rw [ezI6] at hSh
  refine lv_iconst (v := nI 1) hx hb d_Mo_prepareZero_14 (by decide +kernel) ?_
  refine lv_istore_n hx hb d_Mo_prepareZero_15 rfl hl (by decide) rfl (fun ls hl => ?_)
  have hl : lv_has ls 7 [(2, .int (nI 1)), (0, .ref (aw_m ad 0)), (1, .int (nI j))] := hl
  have L16 : ∀ (d t : Nat) (H : Heap) (locs : List Loc) (L : va_W) (ls : Array Slot), t + d = 25 → va_P D aw_C L H → va_D (aw_Z N0) L → az_Sh g ad zG zO zX zY zA zB zM ((v_Mo_prepareZeroV_L16 zI zL j t)) zL zK 26 zF zQ L → va_S (aw_Z N0) s.heap H locs → lv_has ls 7 [(0, .ref (aw_m ad 0)), (1, .int (nI j)), (2, .int (nI (1 + t)))] → W p l e (headSpec ws_Mo_prepareZeroV rm_Mo_prepareZeroV).room s m ([.ref (aw_m ad 0), .int (nI j)] : List Value).toArray below meth c H locs 0 0 (MQ below (va_Qv (fun (_ : Unit) => True) (fun (_ : Unit) t => ag_H D N0 (az_Sh g ad zG zO zX zY zA zB zM (v_Mo_prepareZeroV_zI zI zL j) zL zK 26 zF zQ) t.heap) (aw_Z N0)) ([.ref (aw_m ad 0), .int (nI j)] : List Value).toArray s 0 0 (aw_Z N0)) (F0 m 16 ls []) := by
    clear hl hP hD hSh hS
    intro d
    induction d with
    | zero =>
      intro t H locs L ls ht0 hP hD hSh hS hl
      have ht1 : t = 25 := by omega
      subst ht1
      refine lv_iload_n hx hb d_Mo_prepareZero_16 rfl (lv_at hl 2 rfl) ?_
      refine lv_bipush (v := nI 26) hx hb d_Mo_prepareZero_17 (by decide +kernel) ?_
      refine lv_icmp_ge (tgt := 45) hx hb d_Mo_prepareZero_19 (by decide) (fun _ => ?_) (fun h => absurd (show nI 26 ≤ nI (1 + 25) from (nI_leI (by omega) (by omega)).mpr (by omega)) h)
      refine lv_iconst (v := nI 0) hx hb d_Mo_prepareZero_45 (by decide +kernel) ?_
      refine lv_istore_n hx hb d_Mo_prepareZero_46 rfl hl (by decide) rfl (fun ls hl => ?_)
      have hl : lv_has ls 7 [(2, .int (nI 0)), (0, .ref (aw_m ad 0)), (1, .int (nI j))] := hl
      have L47 : ∀ (d t : Nat) (H : Heap) (locs : List Loc) (L : va_W) (ls : Array Slot), t + d = 4 → va_P D aw_C L H → va_D (aw_Z N0) L → az_Sh g ad zG zO zX zY zA zB zM ((v_Mo_prepareZeroV_L47 zI zL j t)) zL zK 26 zF zQ L → va_S (aw_Z N0) s.heap H locs → lv_has ls 7 [(0, .ref (aw_m ad 0)), (1, .int (nI j)), (2, .int (nI t))] → W p l e (headSpec ws_Mo_prepareZeroV rm_Mo_prepareZeroV).room s m ([.ref (aw_m ad 0), .int (nI j)] : List Value).toArray below meth c H locs 0 0 (MQ below (va_Qv (fun (_ : Unit) => True) (fun (_ : Unit) t => ag_H D N0 (az_Sh g ad zG zO zX zY zA zB zM (v_Mo_prepareZeroV_zI zI zL j) zL zK 26 zF zQ) t.heap) (aw_Z N0)) ([.ref (aw_m ad 0), .int (nI j)] : List Value).toArray s 0 0 (aw_Z N0)) (F0 m 47 ls []) := by
        clear hl hP hD hSh hS
        intro d
        induction d with
        | zero =>
          intro t H locs L ls ht0 hP hD hSh hS hl
          have ht1 : t = 4 := by omega
          subst ht1
          refine lv_iload_n hx hb d_Mo_prepareZero_47 rfl (lv_at hl 2 rfl) ?_
          refine lv_iconst (v := nI 4) hx hb d_Mo_prepareZero_48 (by decide +kernel) ?_
          refine lv_icmp_ge (tgt := 73) hx hb d_Mo_prepareZero_49 (by decide) (fun _ => ?_) (fun h => absurd (show nI 4 ≤ nI 4 from (nI_leI (by omega) (by omega)).mpr (by omega)) h)
          refine lv_iconst (v := nI 0) hx hb d_Mo_prepareZero_73 (by decide +kernel) ?_
          refine lv_istore_n hx hb d_Mo_prepareZero_74 rfl hl (by decide) rfl (fun ls hl => ?_)
          have hl : lv_has ls 7 [(2, .int (nI 0)), (0, .ref (aw_m ad 0)), (1, .int (nI j))] := hl
          refine lv_iconst (v := nI 0) hx hb d_Mo_prepareZero_75 (by decide +kernel) ?_
          refine lv_istore_n hx hb d_Mo_prepareZero_76 rfl hl (by decide) rfl (fun ls hl => ?_)
          have hl : lv_has ls 7 [(3, .int (nI 0)), (2, .int (nI 0)), (0, .ref (aw_m ad 0)), (1, .int (nI j))] := hl
          refine lv_iconst (v := nI 0) hx hb d_Mo_prepareZero_77 (by decide +kernel) ?_
          refine lv_istore hx hb d_Mo_prepareZero_78 hl (by decide) rfl (fun ls hl => ?_)
          have hl : lv_has ls 7 [(4, .int (nI 0)), (3, .int (nI 0)), (2, .int (nI 0)), (0, .ref (aw_m ad 0)), (1, .int (nI j))] := hl
          have L80 : ∀ (d t : Nat) (H : Heap) (locs : List Loc) (L : va_W) (ls : Array Slot), t + d = 78 → va_P D aw_C L H → va_D (aw_Z N0) L → az_Sh g ad zG zO zX zY zA zB zM ((v_Mo_prepareZeroV_L80 zI zL j t).2.2) zL zK 26 zF zQ L → va_S (aw_Z N0) s.heap H locs → lv_has ls 7 [(0, .ref (aw_m ad 0)), (1, .int (nI j)), (2, .int ((v_Mo_prepareZeroV_L80 zI zL j t).1)), (3, .int ((v_Mo_prepareZeroV_L80 zI zL j t).2.1)), (4, .int (nI t))] → W p l e (headSpec ws_Mo_prepareZeroV rm_Mo_prepareZeroV).room s m ([.ref (aw_m ad 0), .int (nI j)] : List Value).toArray below meth c H locs 0 0 (MQ below (va_Qv (fun (_ : Unit) => True) (fun (_ : Unit) t => ag_H D N0 (az_Sh g ad zG zO zX zY zA zB zM (v_Mo_prepareZeroV_zI zI zL j) zL zK 26 zF zQ) t.heap) (aw_Z N0)) ([.ref (aw_m ad 0), .int (nI j)] : List Value).toArray s 0 0 (aw_Z N0)) (F0 m 80 ls []) := by
            clear hl hP hD hSh hS
            intro d
            induction d with
            | zero =>
              intro t H locs L ls ht0 hP hD hSh hS hl
              have ht1 : t = 78 := by omega
              subst ht1
              refine lv_iload hx hb d_Mo_prepareZero_80 (lv_at hl 4 rfl) ?_
              refine lv_bipush (v := nI 78) hx hb d_Mo_prepareZero_82 (by decide +kernel) ?_
              refine lv_icmp_ge (tgt := 168) hx hb d_Mo_prepareZero_84 (by decide) (fun _ => ?_) (fun h => absurd (show nI 78 ≤ nI 78 from (nI_leI (by omega) (by omega)).mpr (by omega)) h)
              have gzI : (v_Mo_prepareZeroV_L80 zI zL j 78).2.2 = v_Mo_prepareZeroV_zI zI zL j := by subst ezI6; rfl
              have hSh : az_Sh g ad zG zO zX zY zA zB zM (v_Mo_prepareZeroV_zI zI zL j) zL zK 26 zF zQ L := by rw [← gzI]; exact hSh
              exact W.vret hx hb hr (fun t ht hW => ⟨⟨(), rfl, trivial, ag_Hr ht hP hD hSh⟩, hS.F ht⟩) hS.2.2 d_Mo_prepareZero_168
            | succ d ih =>
              intro t H locs L ls ht0 hP hD hSh hS hl
              refine lv_iload hx hb d_Mo_prepareZero_80 (lv_at hl 4 rfl) ?_
              refine lv_bipush (v := nI 78) hx hb d_Mo_prepareZero_82 (by decide +kernel) ?_
              refine lv_icmp_ge (tgt := 168) hx hb d_Mo_prepareZero_84 (by decide) (fun h => absurd h (show ¬ nI 78 ≤ nI t from fun h9 => absurd ((nI_leI (by omega) (by omega)).mp h9) (by omega))) (fun _ => ?_)
              refine lv_iload hx hb d_Mo_prepareZero_87 (lv_at hl 4 rfl) ?_
              refine lv_bipush (v := nI 26) hx hb d_Mo_prepareZero_89 (by decide +kernel) ?_
              refine lv_irem hx hb d_Mo_prepareZero_91 (by decide +kernel) ?_
              refine aw_ti (pk_rem (a := t) (d := 26) (by omega) (by omega) (by omega)) ?_
              refine lv_istore hx hb d_Mo_prepareZero_92 hl (by decide) rfl (fun ls hl => ?_)
              have hl : lv_has ls 7 [(5, .int (nI (t % 26))), (0, .ref (aw_m ad 0)), (1, .int (nI j)), (2, .int ((v_Mo_prepareZeroV_L80 zI zL j t).1)), (3, .int ((v_Mo_prepareZeroV_L80 zI zL j t).2.1)), (4, .int (nI t))] := hl
              refine lv_iload hx hb d_Mo_prepareZero_94 (lv_at hl 5 rfl) ?_
              refine lv_iconst (v := nI 4) hx hb d_Mo_prepareZero_96 (by decide +kernel) ?_
              refine lv_irem hx hb d_Mo_prepareZero_97 (by decide +kernel) ?_
              refine aw_ti (pk_rem (a := t) (d := 4) (by omega) (by omega) (by omega)) ?_
              refine lv_istore hx hb d_Mo_prepareZero_98 hl (by decide) rfl (fun ls hl => ?_)
              have hl : lv_has ls 7 [(6, .int (nI (t % 4))), (5, .int (nI (t % 26))), (0, .ref (aw_m ad 0)), (1, .int (nI j)), (2, .int ((v_Mo_prepareZeroV_L80 zI zL j t).1)), (3, .int ((v_Mo_prepareZeroV_L80 zI zL j t).2.1)), (4, .int (nI t))] := hl
              refine lv_aload_n hx hb d_Mo_prepareZero_100 rfl (lv_at hl 2 rfl) ?_
              obtain ⟨hsd8, he7⟩ := zr_M0 hSh
              refine va_get (C := R_Mo) (T := T_Mo) (N := 19) (v := .ref (aw_m ad 15)) hx hb hG in_Mo hown hK hP 67 he7 rfl 17 (by decide) (hG _ gw_9_42) (fun _ h => h) rfl d_Mo_prepareZero_101 ?_
              clear he7
              refine lv_iload hx hb d_Mo_prepareZero_104 (lv_at hl 1 rfl) ?_
              refine lv_aload_n hx hb d_Mo_prepareZero_106 rfl (lv_at hl 2 rfl) ?_
              obtain ⟨hsd10, he9⟩ := zr_M0 hSh
              refine va_get (C := R_Mo) (T := T_Mo) (N := 19) (v := .ref (aw_m ad 15)) hx hb hG in_Mo hown hK hP 67 he9 rfl 17 (by decide) (hG _ gw_9_42) (fun _ h => h) rfl d_Mo_prepareZero_107 ?_
              clear he9
              refine lv_iload hx hb d_Mo_prepareZero_110 (lv_at hl 1 rfl) ?_
              have he11 := zr_M15 hSh
              refine aw_ild hx hb hK hP 82 0 he11 rfl (k := (t % 26)) (by omega) (by decide) d_Mo_prepareZero_112 ?_
              clear he11
              refine ag_topi (fun x12 ex12 => ?_)
              refine lv_iload_n hx hb d_Mo_prepareZero_113 rfl (lv_at hl 4 rfl) ?_
              refine lv_iadd hx hb d_Mo_prepareZero_114 ?_
              refine ag_topi (fun x13 ex13 => ?_)
              refine lv_iload_n hx hb d_Mo_prepareZero_115 rfl (lv_at hl 5 rfl) ?_
              refine lv_iadd hx hb d_Mo_prepareZero_116 ?_
              refine ag_topi (fun x14 ex14 => ?_)
              refine lv_iconst (v := nI 3) hx hb d_Mo_prepareZero_117 (by decide +kernel) ?_
              refine aw_ci ((va_runS (As := [.int x14, .int (nI 3)]) (rest := [.int (nI (t % 26)), .ref (aw_m ad 15)]) ⟨hx, hb, hml, hown, hG⟩ (k_Mo_turnV l x14 (nI 3)) (aw_wS 2 hG gw_11_24 gw_11_22 gw_0_10 gw_11_23 rfl rfl hd_Mo_turn ⟨Nat.le_of_ble_eq_true rfl, Nat.le_of_ble_eq_true rfl⟩) aw_p0 rfl rfl hl.1 rfl (lv_room (Nat.le_of_ble_eq_true rfl)) d_Mo_prepareZero_118 ⟨Nat.le_of_ble_eq_true rfl, Nat.le_of_ble_eq_true rfl⟩).run) (fun x15 ex15 => ?_)
              have ex15 := ex15.symm
              have he16 := zr_M15 hSh
              refine ag_ist hx hb hK hP hD hS 82 0 he16 rfl (k := (t % 26)) (by omega) (by decide) d_Mo_prepareZero_121 (zw_I15w hSh (t % 26) x15) ?_
              clear hP hD hSh hS he16
              intro H locs L hP hD hSh hS
              obtain ⟨zI17, ezI17⟩ : ∃ z : Nat → Nat → Int32, az_v ((v_Mo_prepareZeroV_L80 zI zL j t).2.2) 15 (t % 26) x15 = z := ⟨_, rfl⟩
              rw [ezI17] at hSh
              refine lv_aload_n hx hb d_Mo_prepareZero_122 rfl (lv_at hl 2 rfl) ?_
              obtain ⟨hsd19, he18⟩ := zr_M0 hSh
              refine va_get (C := R_Mo) (T := T_Mo) (N := 19) (v := .ref (aw_m ad 15)) hx hb hG in_Mo hown hK hP 67 he18 rfl 17 (by decide) (hG _ gw_9_42) (fun _ h => h) rfl d_Mo_prepareZero_123 ?_
              clear he18
              refine lv_iload hx hb d_Mo_prepareZero_126 (lv_at hl 1 rfl) ?_
              have he20 := zr_M15 hSh
              refine aw_ild hx hb hK hP 82 0 he20 rfl (k := (t % 26)) (by omega) (by decide) d_Mo_prepareZero_128 ?_
              clear he20
              refine ag_topi (fun x21 ex21 => ?_)
              refine lv_istore_n hx hb d_Mo_prepareZero_129 rfl hl (by decide) rfl (fun ls hl => ?_)
              have hl : lv_has ls 7 [(2, .int x21), (6, .int (nI (t % 4))), (5, .int (nI (t % 26))), (0, .ref (aw_m ad 0)), (1, .int (nI j)), (3, .int ((v_Mo_prepareZeroV_L80 zI zL j t).2.1)), (4, .int (nI t))] := hl
              refine lv_aload_n hx hb d_Mo_prepareZero_130 rfl (lv_at hl 3 rfl) ?_
              obtain ⟨hsd23, he22⟩ := zr_M0 hSh
              refine va_get (C := R_Mo) (T := T_Mo) (N := 19) (v := .ref (aw_m ad 16)) hx hb hG in_Mo hown hK hP 67 he22 rfl 18 (by decide) (hG _ gw_9_43) (fun _ h => h) rfl d_Mo_prepareZero_131 ?_
              clear he22
              refine lv_iload hx hb d_Mo_prepareZero_134 (lv_at hl 1 rfl) ?_
              refine lv_aload_n hx hb d_Mo_prepareZero_136 rfl (lv_at hl 3 rfl) ?_
              obtain ⟨hsd25, he24⟩ := zr_M0 hSh
              refine va_get (C := R_Mo) (T := T_Mo) (N := 19) (v := .ref (aw_m ad 16)) hx hb hG in_Mo hown hK hP 67 he24 rfl 18 (by decide) (hG _ gw_9_43) (fun _ h => h) rfl d_Mo_prepareZero_137 ?_
              clear he24
              refine lv_iload hx hb d_Mo_prepareZero_140 (lv_at hl 1 rfl) ?_
              have he26 := zr_M16 hSh
              refine aw_ild hx hb hK hP 83 0 he26 rfl (k := (t % 4)) (by omega) (by decide) d_Mo_prepareZero_142 ?_
              clear he26
              refine ag_topi (fun x27 ex27 => ?_)
              refine lv_iload_n hx hb d_Mo_prepareZero_143 rfl (lv_at hl 0 rfl) ?_
              refine lv_iadd hx hb d_Mo_prepareZero_144 ?_
              refine ag_topi (fun x28 ex28 => ?_)
              refine lv_iload_n hx hb d_Mo_prepareZero_145 rfl (lv_at hl 5 rfl) ?_
              refine lv_iadd hx hb d_Mo_prepareZero_146 ?_
              refine ag_topi (fun x29 ex29 => ?_)
              refine lv_iload_n hx hb d_Mo_prepareZero_147 rfl (lv_at hl 0 rfl) ?_
              refine lv_iload_n hx hb d_Mo_prepareZero_148 rfl (lv_at hl 5 rfl) ?_
              refine lv_iadd hx hb d_Mo_prepareZero_149 ?_
              refine ag_topi (fun x30 ex30 => ?_)
              refine aw_ci ((va_runS (As := [.int x29, .int x30]) (rest := [.int (nI (t % 4)), .ref (aw_m ad 16)]) ⟨hx, hb, hml, hown, hG⟩ (k_Mo_turnV l x29 x30) (aw_wS 2 hG gw_11_24 gw_11_22 gw_0_10 gw_11_23 rfl rfl hd_Mo_turn ⟨Nat.le_of_ble_eq_true rfl, Nat.le_of_ble_eq_true rfl⟩) aw_p0 rfl rfl hl.1 rfl (lv_room (Nat.le_of_ble_eq_true rfl)) d_Mo_prepareZero_150 ⟨Nat.le_of_ble_eq_true rfl, Nat.le_of_ble_eq_true rfl⟩).run) (fun x31 ex31 => ?_)
              have ex31 := ex31.symm
              have he32 := zr_M16 hSh
              refine ag_ist hx hb hK hP hD hS 83 0 he32 rfl (k := (t % 4)) (by omega) (by decide) d_Mo_prepareZero_153 (zw_I16w hSh (t % 4) x31) ?_
              clear hP hD hSh hS he32
              intro H locs L hP hD hSh hS
              obtain ⟨zI33, ezI33⟩ : ∃ z : Nat → Nat → Int32, az_v zI17 16 (t % 4) x31 = z := ⟨_, rfl⟩
              rw [ezI33] at hSh
              refine lv_aload_n hx hb d_Mo_prepareZero_154 rfl (lv_at hl 3 rfl) ?_
              obtain ⟨hsd35, he34⟩ := zr_M0 hSh
              refine va_get (C := R_Mo) (T := T_Mo) (N := 19) (v := .ref (aw_m ad 16)) hx hb hG in_Mo hown hK hP 67 he34 rfl 18 (by decide) (hG _ gw_9_43) (fun _ h => h) rfl d_Mo_prepareZero_155 ?_
              clear he34
              refine lv_iload hx hb d_Mo_prepareZero_158 (lv_at hl 1 rfl) ?_
              have he36 := zr_M16 hSh
              refine aw_ild hx hb hK hP 83 0 he36 rfl (k := (t % 4)) (by omega) (by decide) d_Mo_prepareZero_160 ?_
              clear he36
              refine ag_topi (fun x37 ex37 => ?_)
              refine lv_istore_n hx hb d_Mo_prepareZero_161 rfl hl (by decide) rfl (fun ls hl => ?_)
              have hl : lv_has ls 7 [(3, .int x37), (2, .int x21), (6, .int (nI (t % 4))), (5, .int (nI (t % 26))), (0, .ref (aw_m ad 0)), (1, .int (nI j)), (4, .int (nI t))] := hl
              refine lv_iinc (k := 6) (v := nI (t + 1)) hx hb d_Mo_prepareZero_162 hl rfl (aw_inc t 1 1 (by decide +kernel)) (by decide) rfl (fun ls hl => ?_)
              have hl : lv_has ls 7 [(4, .int (nI (t + 1))), (3, .int x37), (2, .int x21), (6, .int (nI (t % 4))), (5, .int (nI (t % 26))), (0, .ref (aw_m ad 0)), (1, .int (nI j))] := hl
              refine lv_goto (tgt := 80) hx hb d_Mo_prepareZero_165 (by decide) ?_
              have hl := lv_sub hl (l' := [(0, .ref (aw_m ad 0)), (1, .int (nI j)), (2, .int x21), (3, .int x37), (4, .int (nI (t + 1)))]) [5, 6, 2, 1, 0] rfl
              have g0 : x21 = (v_Mo_prepareZeroV_L80 zI zL j (t + 1)).1 := by subst ex37 ezI33 ex31 ex30 ex29 ex28 ex27 ex21 ezI17 ex15 ex14 ex13 ex12 ezI6; (rw [v_Mo_prepareZeroV_L80_s]) <;> rfl
              have g1 : x37 = (v_Mo_prepareZeroV_L80 zI zL j (t + 1)).2.1 := by subst ex37 ezI33 ex31 ex30 ex29 ex28 ex27 ex21 ezI17 ex15 ex14 ex13 ex12 ezI6; (rw [v_Mo_prepareZeroV_L80_s]) <;> rfl
              have g2 : zI33 = (v_Mo_prepareZeroV_L80 zI zL j (t + 1)).2.2 := by subst ex37 ezI33 ex31 ex30 ex29 ex28 ex27 ex21 ezI17 ex15 ex14 ex13 ex12 ezI6; (rw [v_Mo_prepareZeroV_L80_s]) <;> rfl
              have hl : lv_has ls 7 [(0, .ref (aw_m ad 0)), (1, .int (nI j)), (2, .int ((v_Mo_prepareZeroV_L80 zI zL j (t + 1)).1)), (3, .int ((v_Mo_prepareZeroV_L80 zI zL j (t + 1)).2.1)), (4, .int (nI (t + 1)))] := by rw [← g0, ← g1]; exact hl
              have hSh : az_Sh g ad zG zO zX zY zA zB zM ((v_Mo_prepareZeroV_L80 zI zL j (t + 1)).2.2) zL zK 26 zF zQ L := by rw [← g2]; exact hSh
              exact ih (t + 1) H locs L ls (by omega) hP hD hSh hS (by first | exact hl | simpa [Nat.add_assoc, Nat.mul_add, Nat.add_comm] using hl)
          have hl := lv_sub hl (l' := [(0, .ref (aw_m ad 0)), (1, .int (nI j)), (2, .int (nI 0)), (3, .int (nI 0)), (4, .int (nI 0))]) [3, 4, 2, 1, 0] rfl
          have g0 : nI 0 = (v_Mo_prepareZeroV_L80 zI zL j 0).1 := by subst ezI6; (rw [v_Mo_prepareZeroV_L80_z]) <;> rfl
          have g1 : nI 0 = (v_Mo_prepareZeroV_L80 zI zL j 0).2.1 := by subst ezI6; (rw [v_Mo_prepareZeroV_L80_z]) <;> rfl
          have g2 : (v_Mo_prepareZeroV_L47 zI zL j 4) = (v_Mo_prepareZeroV_L80 zI zL j 0).2.2 := by subst ezI6; (rw [v_Mo_prepareZeroV_L80_z]) <;> rfl
          have hl : lv_has ls 7 [(0, .ref (aw_m ad 0)), (1, .int (nI j)), (2, .int ((v_Mo_prepareZeroV_L80 zI zL j 0).1)), (3, .int ((v_Mo_prepareZeroV_L80 zI zL j 0).2.1)), (4, .int (nI 0))] := by exact hl
          have hSh : az_Sh g ad zG zO zX zY zA zB zM ((v_Mo_prepareZeroV_L80 zI zL j 0).2.2) zL zK 26 zF zQ L := by rw [← g2]; exact hSh
          exact L80 78 0 _ _ L ls (by omega) hP hD hSh hS (by first | exact hl | simpa using hl)
        | succ d ih =>
          intro t H locs L ls ht0 hP hD hSh hS hl
          refine lv_iload_n hx hb d_Mo_prepareZero_47 rfl (lv_at hl 2 rfl) ?_
          refine lv_iconst (v := nI 4) hx hb d_Mo_prepareZero_48 (by decide +kernel) ?_
          refine lv_icmp_ge (tgt := 73) hx hb d_Mo_prepareZero_49 (by decide) (fun h => absurd h (show ¬ nI 4 ≤ nI t from fun h9 => absurd ((nI_leI (by omega) (by omega)).mp h9) (by omega))) (fun _ => ?_)
          refine lv_aload_n hx hb d_Mo_prepareZero_52 rfl (lv_at hl 0 rfl) ?_
          obtain ⟨hsd39, he38⟩ := zr_M0 hSh
          refine va_get (C := R_Mo) (T := T_Mo) (N := 19) (v := .ref (aw_m ad 16)) hx hb hG in_Mo hown hK hP 67 he38 rfl 18 (by decide) (hG _ gw_9_43) (fun _ h => h) rfl d_Mo_prepareZero_53 ?_
          clear he38
          refine lv_iload_n hx hb d_Mo_prepareZero_56 rfl (lv_at hl 2 rfl) ?_
          refine lv_aload_n hx hb d_Mo_prepareZero_57 rfl (lv_at hl 0 rfl) ?_
          refine lv_iload_n hx hb d_Mo_prepareZero_58 rfl (lv_at hl 1 rfl) ?_
          refine lv_iload_n hx hb d_Mo_prepareZero_59 rfl (lv_at hl 2 rfl) ?_
          obtain ⟨_, he40⟩ := zr_M0 hSh
          refine va_calli (va_runV (As := [.int (nI j), .int (nI t)]) (rest := [.int (nI t), .ref (aw_m ad 16)]) ⟨hx, hb, hml, hown, hG⟩ (k_Mo_quarterV l D g ad N0 zG zO zX zY zA zB zM ((v_Mo_prepareZeroV_L47 zI zL j t)) zL zK 26 zF zQ j (nI t) hj) (aw_wV 2 hG gw_11_14 gw_11_12 gw_0_10 gw_11_13 gw_p_14 rfl rfl hd_Mo_quarter ⟨Nat.le_of_ble_eq_true rfl, Nat.le_of_ble_eq_true rfl⟩) (ag_qV (va_recv hK hP rfl he40) hP hD hSh hU hS) rfl rfl hl.1 rfl (lv_room (Nat.le_of_ble_eq_true rfl)) d_Mo_prepareZero_60 ⟨Nat.le_of_ble_eq_true rfl, Nat.le_of_ble_eq_true rfl⟩) hS (fun _ _ h => h) (fun _ h => h) ?_
          clear hP hD hSh hS he40
          intro x41 u8 t8 H locs ht _ ex41 hB _ _ hS
          obtain ⟨L, hP, hD, hSh⟩ := hB
          rw [ht] at hP
          clear ht
          have ex41 := ex41.symm
          refine aw_ci ((va_runS (As := [.int x41]) (rest := [.int (nI t), .ref (aw_m ad 16)]) ⟨hx, hb, hml, hown, hG⟩ (k_Mo_swappedV l x41) (aw_wS 1 hG gw_11_20 gw_11_18 gw_0_10 gw_11_19 rfl rfl hd_Mo_swapped ⟨Nat.le_of_ble_eq_true rfl, Nat.le_of_ble_eq_true rfl⟩) aw_p0 rfl rfl hl.1 rfl (lv_room (Nat.le_of_ble_eq_true rfl)) d_Mo_prepareZero_63 ⟨Nat.le_of_ble_eq_true rfl, Nat.le_of_ble_eq_true rfl⟩).run) (fun x42 ex42 => ?_)
          have ex42 := ex42.symm
          have he43 := zr_M16 hSh
          refine ag_ist hx hb hK hP hD hS 83 0 he43 rfl (k := t) (by omega) (by decide) d_Mo_prepareZero_66 (zw_I16w hSh t x42) ?_
          clear hP hD hSh hS he43
          intro H locs L hP hD hSh hS
          obtain ⟨zI44, ezI44⟩ : ∃ z : Nat → Nat → Int32, az_v ((v_Mo_prepareZeroV_L47 zI zL j t)) 16 t x42 = z := ⟨_, rfl⟩
          rw [ezI44] at hSh
          refine lv_iinc (k := 2) (v := nI (t + 1)) hx hb d_Mo_prepareZero_67 hl rfl (aw_inc t 1 1 (by decide +kernel)) (by decide) rfl (fun ls hl => ?_)
          have hl : lv_has ls 7 [(2, .int (nI (t + 1))), (0, .ref (aw_m ad 0)), (1, .int (nI j))] := hl
          refine lv_goto (tgt := 47) hx hb d_Mo_prepareZero_70 (by decide) ?_
          have hl := lv_sub hl (l' := [(0, .ref (aw_m ad 0)), (1, .int (nI j)), (2, .int (nI (t + 1)))]) [1, 2, 0] rfl
          have g0 : zI44 = (v_Mo_prepareZeroV_L47 zI zL j (t + 1)) := by subst ezI44 ex42 ex41 ezI6; (rw [v_Mo_prepareZeroV_L47_s]) <;> rfl
          have hSh : az_Sh g ad zG zO zX zY zA zB zM ((v_Mo_prepareZeroV_L47 zI zL j (t + 1))) zL zK 26 zF zQ L := by rw [← g0]; exact hSh
          exact ih (t + 1) H locs L ls (by omega) hP hD hSh hS (by first | exact hl | simpa [Nat.add_assoc, Nat.mul_add, Nat.add_comm] using hl)
      have hl := lv_sub hl (l' := [(0, .ref (aw_m ad 0)), (1, .int (nI j)), (2, .int (nI 0))]) [1, 2, 0] rfl
      have g0 : (v_Mo_prepareZeroV_L16 zI zL j 25) = (v_Mo_prepareZeroV_L47 zI zL j 0) := by subst ezI6; (rw [v_Mo_prepareZeroV_L47_z]) <;> rfl
      have hSh : az_Sh g ad zG zO zX zY zA zB zM ((v_Mo_prepareZeroV_L47 zI zL j 0)) zL zK 26 zF zQ L := by rw [← g0]; exact hSh
      exact L47 4 0 _ _ L ls (by omega) hP hD hSh hS (by first | exact hl | simpa using hl)
    | succ d ih =>
      intro t H locs L ls ht0 hP hD hSh hS hl
      refine lv_iload_n hx hb d_Mo_prepareZero_16 rfl (lv_at hl 2 rfl) ?_
      refine lv_bipush (v := nI 26) hx hb d_Mo_prepareZero_17 (by decide +kernel) ?_
      refine lv_icmp_ge (tgt := 45) hx hb d_Mo_prepareZero_19 (by decide) (fun h => absurd h (show ¬ nI 26 ≤ nI (1 + t) from fun h9 => absurd ((nI_leI (by omega) (by omega)).mp h9) (by omega))) (fun _ => ?_)
      refine lv_aload_n hx hb d_Mo_prepareZero_22 rfl (lv_at hl 0 rfl) ?_
      obtain ⟨hsd46, he45⟩ := zr_M0 hSh
      refine va_get (C := R_Mo) (T := T_Mo) (N := 19) (v := .ref (aw_m ad 15)) hx hb hG in_Mo hown hK hP 67 he45 rfl 17 (by decide) (hG _ gw_9_42) (fun _ h => h) rfl d_Mo_prepareZero_23 ?_
      clear he45
      refine lv_iload_n hx hb d_Mo_prepareZero_26 rfl (lv_at hl 2 rfl) ?_
      refine lv_aload_n hx hb d_Mo_prepareZero_27 rfl (lv_at hl 0 rfl) ?_
      obtain ⟨hsd48, he47⟩ := zr_M0 hSh
      refine va_get (C := R_Mo) (T := T_Mo) (N := 19) (v := .ref (aw_m ad 15)) hx hb hG in_Mo hown hK hP 67 he47 rfl 17 (by decide) (hG _ gw_9_42) (fun _ h => h) rfl d_Mo_prepareZero_28 ?_
      clear he47
      refine lv_iload_n hx hb d_Mo_prepareZero_31 rfl (lv_at hl 2 rfl) ?_
      refine lv_iconst (v := nI 1) hx hb d_Mo_prepareZero_32 (by decide +kernel) ?_
      refine lv_isub hx hb d_Mo_prepareZero_33 ?_
      refine aw_ti (pk_sub (a := (1 + t)) (b := 1) (by omega)) ?_
      have he49 := zr_M15 hSh
      refine aw_ild hx hb hK hP 82 0 he49 rfl (k := ((1 + t) - 1)) (by omega) (by decide) d_Mo_prepareZero_34 ?_
      clear he49
      refine ag_topi (fun x50 ex50 => ?_)
      refine lv_ldc (v := (-1640531527)) hx hb hown (hG _ gw_11_11) d_Mo_prepareZero_35 ?_
      refine lv_iadd hx hb d_Mo_prepareZero_37 ?_
      refine ag_topi (fun x51 ex51 => ?_)
      have he52 := zr_M15 hSh
      refine ag_ist hx hb hK hP hD hS 82 0 he52 rfl (k := (1 + t)) (by omega) (by decide) d_Mo_prepareZero_38 (zw_I15w hSh (1 + t) x51) ?_
      clear hP hD hSh hS he52
      intro H locs L hP hD hSh hS
      obtain ⟨zI53, ezI53⟩ : ∃ z : Nat → Nat → Int32, az_v ((v_Mo_prepareZeroV_L16 zI zL j t)) 15 (1 + t) x51 = z := ⟨_, rfl⟩
      rw [ezI53] at hSh
      refine lv_iinc (k := 2) (v := nI (1 + t + 1)) hx hb d_Mo_prepareZero_39 hl rfl (aw_inc (1 + t) 1 1 (by decide +kernel)) (by decide) rfl (fun ls hl => ?_)
      have hl : lv_has ls 7 [(2, .int (nI (1 + t + 1))), (0, .ref (aw_m ad 0)), (1, .int (nI j))] := hl
      refine lv_goto (tgt := 16) hx hb d_Mo_prepareZero_42 (by decide) ?_
      have hl := lv_sub hl (l' := [(0, .ref (aw_m ad 0)), (1, .int (nI j)), (2, .int (nI (1 + t + 1)))]) [1, 2, 0] rfl
      have g0 : zI53 = (v_Mo_prepareZeroV_L16 zI zL j (t + 1)) := by subst ezI53 ex51 ex50 ezI6; (rw [v_Mo_prepareZeroV_L16_s]) <;> rfl
      have hSh : az_Sh g ad zG zO zX zY zA zB zM ((v_Mo_prepareZeroV_L16 zI zL j (t + 1))) zL zK 26 zF zQ L := by rw [← g0]; exact hSh
      exact ih (t + 1) H locs L ls (by omega) hP hD hSh hS (by first | exact hl | simpa [Nat.add_assoc, Nat.mul_add, Nat.add_comm] using hl)
  have hl := lv_sub hl (l' := [(0, .ref (aw_m ad 0)), (1, .int (nI j)), (2, .int (nI 1))]) [1, 2, 0] rfl
  have g0 : zI6 = (v_Mo_prepareZeroV_L16 zI zL j 0) := by subst ezI6; (rw [v_Mo_prepareZeroV_L16_z]) <;> rfl
  have hSh : az_Sh g ad zG zO zX zY zA zB zM ((v_Mo_prepareZeroV_L16 zI zL j 0)) zL zK 26 zF zQ L := by rw [← g0]; exact hSh
  exact L16 25 0 _ _ L ls (by omega) hP hD hSh hS (by first | exact hl | simpa using hl)
noncomputable def v_Mo_prepareFourV_L18 (zI : Nat → Nat → Int32) (zL : Nat → Nat → Int64) (j : Nat) (t : Nat) : Int64 × Int64 × (Nat → Nat → Int32) := Nat.rec (motive := fun _ => Int64 × Int64 × (Nat → Nat → Int32)) (zL 4 j, zL 5 j, zI) (fun t s => (if (nI t) ≤ 0 then (if (nI 4) ≤ (nI (t % 8)) then (s.1, s.2.1, az_v (s.2.2) 15 t ((Int64.toInt32 (jL_ushr (s.2.1) (nI (48 - (16 * (t % 4)))))) &&& 65535)) else (s.1, s.2.1, az_v (s.2.2) 15 t ((Int64.toInt32 (jL_ushr (s.1) (nI (48 - (16 * (t % 4)))))) &&& 65535))) else (if (nI (t % 8)) = 0 then (((jL_shl (s.1) (nI 25)) ||| (jL_ushr (s.2.1) (nI 39))), ((jL_shl (s.2.1) (nI 25)) ||| (jL_ushr (s.1) (nI 39))), az_v (s.2.2) 15 t ((Int64.toInt32 (jL_ushr ((jL_shl (s.1) (nI 25)) ||| (jL_ushr (s.2.1) (nI 39))) (nI (48 - (16 * (t % 4)))))) &&& 65535)) else (if (nI 4) ≤ (nI (t % 8)) then (s.1, s.2.1, az_v (s.2.2) 15 t ((Int64.toInt32 (jL_ushr (s.2.1) (nI (48 - (16 * (t % 4)))))) &&& 65535)) else (s.1, s.2.1, az_v (s.2.2) 15 t ((Int64.toInt32 (jL_ushr (s.1) (nI (48 - (16 * (t % 4)))))) &&& 65535)))))) t
theorem v_Mo_prepareFourV_L18_z (zI : Nat → Nat → Int32) (zL : Nat → Nat → Int64) (j : Nat) : v_Mo_prepareFourV_L18 zI zL j 0 = (zL 4 j, zL 5 j, zI) := rfl
theorem v_Mo_prepareFourV_L18_s (zI : Nat → Nat → Int32) (zL : Nat → Nat → Int64) (j : Nat) (t : Nat) : v_Mo_prepareFourV_L18 zI zL j (t + 1) = (if (nI t) ≤ 0 then (if (nI 4) ≤ (nI (t % 8)) then ((v_Mo_prepareFourV_L18 zI zL j t).1, (v_Mo_prepareFourV_L18 zI zL j t).2.1, az_v ((v_Mo_prepareFourV_L18 zI zL j t).2.2) 15 t ((Int64.toInt32 (jL_ushr ((v_Mo_prepareFourV_L18 zI zL j t).2.1) (nI (48 - (16 * (t % 4)))))) &&& 65535)) else ((v_Mo_prepareFourV_L18 zI zL j t).1, (v_Mo_prepareFourV_L18 zI zL j t).2.1, az_v ((v_Mo_prepareFourV_L18 zI zL j t).2.2) 15 t ((Int64.toInt32 (jL_ushr ((v_Mo_prepareFourV_L18 zI zL j t).1) (nI (48 - (16 * (t % 4)))))) &&& 65535))) else (if (nI (t % 8)) = 0 then (((jL_shl ((v_Mo_prepareFourV_L18 zI zL j t).1) (nI 25)) ||| (jL_ushr ((v_Mo_prepareFourV_L18 zI zL j t).2.1) (nI 39))), ((jL_shl ((v_Mo_prepareFourV_L18 zI zL j t).2.1) (nI 25)) ||| (jL_ushr ((v_Mo_prepareFourV_L18 zI zL j t).1) (nI 39))), az_v ((v_Mo_prepareFourV_L18 zI zL j t).2.2) 15 t ((Int64.toInt32 (jL_ushr ((jL_shl ((v_Mo_prepareFourV_L18 zI zL j t).1) (nI 25)) ||| (jL_ushr ((v_Mo_prepareFourV_L18 zI zL j t).2.1) (nI 39))) (nI (48 - (16 * (t % 4)))))) &&& 65535)) else (if (nI 4) ≤ (nI (t % 8)) then ((v_Mo_prepareFourV_L18 zI zL j t).1, (v_Mo_prepareFourV_L18 zI zL j t).2.1, az_v ((v_Mo_prepareFourV_L18 zI zL j t).2.2) 15 t ((Int64.toInt32 (jL_ushr ((v_Mo_prepareFourV_L18 zI zL j t).2.1) (nI (48 - (16 * (t % 4)))))) &&& 65535)) else ((v_Mo_prepareFourV_L18 zI zL j t).1, (v_Mo_prepareFourV_L18 zI zL j t).2.1, az_v ((v_Mo_prepareFourV_L18 zI zL j t).2.2) 15 t ((Int64.toInt32 (jL_ushr ((v_Mo_prepareFourV_L18 zI zL j t).1) (nI (48 - (16 * (t % 4)))))) &&& 65535))))) := rfl
noncomputable def v_Mo_prepareFourV_zI (zI : Nat → Nat → Int32) (zL : Nat → Nat → Int64) (j : Nat) : Nat → Nat → Int32 := (v_Mo_prepareFourV_L18 zI zL j 52).2.2
abbrev ws_Mo_prepareFourV : List Cond := Cond.code y_Mo_prepareFour b_Mo_prepareFour 9 none :: aw_G
abbrev rm_Mo_prepareFourV : Room := { frames := 0, cells := 0, slots := 0, locals := 0 }
set_option maxHeartbeats 4000000 in
set_option maxRecDepth 100000 in
theorem k_Mo_prepareFourV (l : Launch) (D : va_G) (g : Nat → ClassId) (ad : Nat → Nat) (N0 : Nat) (zG : Nat → Nat × Nat) (zO : Nat → Nat) (zX : Nat → Nat → Int64) (zY : Nat → Nat → Int32) (zA : Nat → Nat → Nat → Int32) (zB : Nat → Int32) (zM : Nat → Nat × Nat) (zI : Nat → Nat → Int32) (zL : Nat → Nat → Int64) (zK : Int32) (zN : Nat) (zF : Int32) (zQ : Int64) (j : Nat) (hj : j < 4) : Met l y_Mo_prepareFour ws_Mo_prepareFourV rm_Mo_prepareFourV (va_Pc ([.ref (aw_m ad 0), .int (nI j)] : List Value) (ag_B D g N0 (az_Sh g ad zG zO zX zY zA zB zM zI zL zK zN zF zQ))) (va_Qv (fun (_ : Unit) => True) (fun (_ : Unit) t => ag_H D N0 (az_Sh g ad zG zO zX zY zA zB zM (v_Mo_prepareFourV_zI zI zL j) zL zK zN zF zQ) t.heap) (aw_Z N0)) 0 0 (aw_Z N0) := by
  refine Met.ofW (cc := b_Mo_prepareFour) (maxL := 9) (ret := none) (by decide) rfl ?_
  intro p e s m args below meth c s₁ B hml hv
  obtain ⟨rfl, ⟨L, hP, hD, hSh⟩, hU⟩ := hv
  have hx := B.exec
  have hb := B.bytes
  have hr := B.returns
  have hG : ∀ w ∈ aw_G, w.before _ s = true := fun w h => atoms_spec (ws := ws_Mo_prepareFourV) B.pre w (List.mem_cons_of_mem _ h)
  have hown : s.vm.findClass "RuleCiphersModel" = some m.cls := findClass_of_methodNamed B.named
  have hlocks := B.notSynchronized
  have hE := hU.1
  have hK := hE.1
  have hN := hE.2.1
  have hS : va_S (aw_Z N0) s.heap s.heap [] := va_S.rf
  have hl := lv_entry ([.ref (aw_m ad 0), .int (nI j)] : List Value) (n := 9) (Nat.le_of_ble_eq_true rfl)
  rw [lg_entry_eq]
  generalize (lg_sl ([.ref (aw_m ad 0), .int (nI j)] : List Value) ++ List.replicate (9 - (lg_sl ([.ref (aw_m ad 0), .int (nI j)] : List Value)).length) Slot.unset).toArray = ls at hl ⊢
  have hl : lv_has ls 9 [(0, .ref (aw_m ad 0)), (1, .int (nI j))] := hl
  refine lv_aload_n hx hb d_Mo_prepareFour_0 rfl (lv_at hl 0 rfl) ?_
  obtain ⟨hsd2, he1⟩ := zr_M0 hSh
  refine va_get (C := R_Mo) (T := T_Mo) (N := 19) (v := .ref (aw_m ad 4)) hx hb hG in_Mo hown hK hP 67 he1 rfl 4 (by decide) (hG _ gw_9_29) (fun _ h => h) rfl d_Mo_prepareFour_1 ?_
  clear he1
  refine lv_iload_n hx hb d_Mo_prepareFour_4 rfl (lv_at hl 1 rfl) ?_
  have he3 := zr_M4 hSh
  refine aw_lld hx hb hK hP 71 1 he3 rfl (k := j) (by omega) (by decide) d_Mo_prepareFour_5 ?_
  clear he3
  refine ag_topl (fun y4 ey4 => ?_)
  refine lv_lstore_n hx hb d_Mo_prepareFour_6 rfl hl (by decide) rfl (fun ls hl => ?_)
  have hl : lv_has ls 9 [(2, .long y4), (0, .ref (aw_m ad 0)), (1, .int (nI j))] := hl
  refine lv_aload_n hx hb d_Mo_prepareFour_7 rfl (lv_at hl 1 rfl) ?_
  obtain ⟨hsd6, he5⟩ := zr_M0 hSh
  refine va_get (C := R_Mo) (T := T_Mo) (N := 19) (v := .ref (aw_m ad 5)) hx hb hG in_Mo hown hK hP 67 he5 rfl 5 (by decide) (hG _ gw_9_30) (fun _ h => h) rfl d_Mo_prepareFour_8 ?_
  clear he5
  refine lv_iload_n hx hb d_Mo_prepareFour_11 rfl (lv_at hl 2 rfl) ?_
  have he7 := zr_M5 hSh
  refine aw_lld hx hb hK hP 72 1 he7 rfl (k := j) (by omega) (by decide) d_Mo_prepareFour_12 ?_
  clear he7
  refine ag_topl (fun y8 ey8 => ?_)
  refine lv_lstore hx hb d_Mo_prepareFour_13 hl (by decide) rfl (fun ls hl => ?_)
  have hl : lv_has ls 9 [(4, .long y8), (2, .long y4), (0, .ref (aw_m ad 0)), (1, .int (nI j))] := hl
  refine lv_iconst (v := nI 0) hx hb d_Mo_prepareFour_15 (by decide +kernel) ?_
  refine lv_istore hx hb d_Mo_prepareFour_16 hl (by decide) rfl (fun ls hl => ?_)
  have hl : lv_has ls 9 [(6, .int (nI 0)), (4, .long y8), (2, .long y4), (0, .ref (aw_m ad 0)), (1, .int (nI j))] := hl
  have L18 : ∀ (d t : Nat) (H : Heap) (locs : List Loc) (L : va_W) (ls : Array Slot), t + d = 52 → va_P D aw_C L H → va_D (aw_Z N0) L → az_Sh g ad zG zO zX zY zA zB zM ((v_Mo_prepareFourV_L18 zI zL j t).2.2) zL zK zN zF zQ L → va_S (aw_Z N0) s.heap H locs → lv_has ls 9 [(0, .ref (aw_m ad 0)), (1, .int (nI j)), (2, .long ((v_Mo_prepareFourV_L18 zI zL j t).1)), (4, .long ((v_Mo_prepareFourV_L18 zI zL j t).2.1)), (6, .int (nI t))] → W p l e (headSpec ws_Mo_prepareFourV rm_Mo_prepareFourV).room s m ([.ref (aw_m ad 0), .int (nI j)] : List Value).toArray below meth c H locs 0 0 (MQ below (va_Qv (fun (_ : Unit) => True) (fun (_ : Unit) t => ag_H D N0 (az_Sh g ad zG zO zX zY zA zB zM (v_Mo_prepareFourV_zI zI zL j) zL zK zN zF zQ) t.heap) (aw_Z N0)) ([.ref (aw_m ad 0), .int (nI j)] : List Value).toArray s 0 0 (aw_Z N0)) (F0 m 18 ls []) := by
    clear hl hP hD hSh hS
    intro d
    induction d with
    | zero =>
      intro t H locs L ls ht0 hP hD hSh hS hl
      have ht1 : t = 52 := by omega
      subst ht1
      refine lv_iload hx hb d_Mo_prepareFour_18 (lv_at hl 4 rfl) ?_
      refine lv_bipush (v := nI 52) hx hb d_Mo_prepareFour_20 (by decide +kernel) ?_
      refine lv_icmp_ge (tgt := 112) hx hb d_Mo_prepareFour_22 (by decide) (fun _ => ?_) (fun h => absurd (show nI 52 ≤ nI 52 from (nI_leI (by omega) (by omega)).mpr (by omega)) h)
      have gzI : (v_Mo_prepareFourV_L18 zI zL j 52).2.2 = v_Mo_prepareFourV_zI zI zL j := by subst ey8 ey4; rfl
      have hSh : az_Sh g ad zG zO zX zY zA zB zM (v_Mo_prepareFourV_zI zI zL j) zL zK zN zF zQ L := by rw [← gzI]; exact hSh
      exact W.vret hx hb hr (fun t ht hW => ⟨⟨(), rfl, trivial, ag_Hr ht hP hD hSh⟩, hS.F ht⟩) hS.2.2 d_Mo_prepareFour_112
    | succ d ih =>
      intro t H locs L ls ht0 hP hD hSh hS hl
      refine lv_iload hx hb d_Mo_prepareFour_18 (lv_at hl 4 rfl) ?_
      refine lv_bipush (v := nI 52) hx hb d_Mo_prepareFour_20 (by decide +kernel) ?_
      refine lv_icmp_ge (tgt := 112) hx hb d_Mo_prepareFour_22 (by decide) (fun h => absurd h (show ¬ nI 52 ≤ nI t from fun h9 => absurd ((nI_leI (by omega) (by omega)).mp h9) (by omega))) (fun _ => ?_)
      refine lv_iload hx hb d_Mo_prepareFour_25 (lv_at hl 4 rfl) ?_
      refine lv_if_le (tgt := 65) hx hb d_Mo_prepareFour_27 (by decide) (fun hb9 => ?_) (fun hb9 => ?_)
      · have nhb9 : t ≤ 0 := (nI_leI (by omega) (by omega)).mp (show nI t ≤ nI 0 from hb9)
        refine lv_iload hx hb d_Mo_prepareFour_65 (lv_at hl 4 rfl) ?_
        refine lv_bipush (v := nI 8) hx hb d_Mo_prepareFour_67 (by decide +kernel) ?_
        refine lv_irem hx hb d_Mo_prepareFour_69 (by decide +kernel) ?_
        refine aw_ti (pk_rem (a := t) (d := 8) (by omega) (by omega) (by omega)) ?_
        refine lv_iconst (v := nI 4) hx hb d_Mo_prepareFour_70 (by decide +kernel) ?_
        refine lv_icmp_ge (tgt := 78) hx hb d_Mo_prepareFour_71 (by decide) (fun hb10 => ?_) (fun hb10 => ?_)
        · have nhb10 : 4 ≤ t % 8 := (nI_leI (by omega) (by omega)).mp hb10
          refine lv_lload hx hb d_Mo_prepareFour_78 (lv_at hl 3 rfl) ?_
          refine lv_lstore hx hb d_Mo_prepareFour_80 hl (by decide) rfl (fun ls hl => ?_)
          have hl : lv_has ls 9 [(7, .long ((v_Mo_prepareFourV_L18 zI zL j t).2.1)), (0, .ref (aw_m ad 0)), (1, .int (nI j)), (2, .long ((v_Mo_prepareFourV_L18 zI zL j t).1)), (4, .long ((v_Mo_prepareFourV_L18 zI zL j t).2.1)), (6, .int (nI t))] := hl
          refine lv_aload_n hx hb d_Mo_prepareFour_82 rfl (lv_at hl 1 rfl) ?_
          obtain ⟨hsd12, he11⟩ := zr_M0 hSh
          refine va_get (C := R_Mo) (T := T_Mo) (N := 19) (v := .ref (aw_m ad 15)) hx hb hG in_Mo hown hK hP 67 he11 rfl 17 (by decide) (hG _ gw_9_42) (fun _ h => h) rfl d_Mo_prepareFour_83 ?_
          clear he11
          refine lv_iload hx hb d_Mo_prepareFour_86 (lv_at hl 5 rfl) ?_
          refine lv_lload hx hb d_Mo_prepareFour_88 (lv_at hl 0 rfl) ?_
          refine lv_bipush (v := nI 48) hx hb d_Mo_prepareFour_90 (by decide +kernel) ?_
          refine lv_bipush (v := nI 16) hx hb d_Mo_prepareFour_92 (by decide +kernel) ?_
          refine lv_iload hx hb d_Mo_prepareFour_94 (lv_at hl 5 rfl) ?_
          refine lv_iconst (v := nI 4) hx hb d_Mo_prepareFour_96 (by decide +kernel) ?_
          refine lv_irem hx hb d_Mo_prepareFour_97 (by decide +kernel) ?_
          refine aw_ti (pk_rem (a := t) (d := 4) (by omega) (by omega) (by omega)) ?_
          refine lv_imul hx hb d_Mo_prepareFour_98 ?_
          refine aw_ti (pk_mul 16 (t % 4)) ?_
          refine lv_isub hx hb d_Mo_prepareFour_99 ?_
          refine aw_ti (pk_sub (a := 48) (b := (16 * (t % 4))) (by omega)) ?_
          refine lv_lushr hx hb d_Mo_prepareFour_100 rfl ?_
          refine ag_topl (fun y13 ey13 => ?_)
          refine lv_l2i hx hb d_Mo_prepareFour_101 rfl ?_
          refine ag_topi (fun x14 ex14 => ?_)
          refine lv_ldc (v := 65535) hx hb hown (hG _ gw_11_36) d_Mo_prepareFour_102 ?_
          refine lv_iand hx hb d_Mo_prepareFour_104 ?_
          refine ag_topi (fun x15 ex15 => ?_)
          have he16 := zr_M15 hSh
          refine ag_ist hx hb hK hP hD hS 82 0 he16 rfl (k := t) (by omega) (by decide) d_Mo_prepareFour_105 (zw_I15w hSh t x15) ?_
          clear hP hD hSh hS he16
          intro H locs L hP hD hSh hS
          obtain ⟨zI17, ezI17⟩ : ∃ z : Nat → Nat → Int32, az_v ((v_Mo_prepareFourV_L18 zI zL j t).2.2) 15 t x15 = z := ⟨_, rfl⟩
          rw [ezI17] at hSh
          refine lv_iinc (k := 5) (v := nI (t + 1)) hx hb d_Mo_prepareFour_106 hl rfl (aw_inc t 1 1 (by decide +kernel)) (by decide) rfl (fun ls hl => ?_)
          have hl : lv_has ls 9 [(6, .int (nI (t + 1))), (7, .long ((v_Mo_prepareFourV_L18 zI zL j t).2.1)), (0, .ref (aw_m ad 0)), (1, .int (nI j)), (2, .long ((v_Mo_prepareFourV_L18 zI zL j t).1)), (4, .long ((v_Mo_prepareFourV_L18 zI zL j t).2.1))] := hl
          refine lv_goto (tgt := 18) hx hb d_Mo_prepareFour_109 (by decide) ?_
          have hl := lv_sub hl (l' := [(0, .ref (aw_m ad 0)), (1, .int (nI j)), (2, .long ((v_Mo_prepareFourV_L18 zI zL j t).1)), (4, .long ((v_Mo_prepareFourV_L18 zI zL j t).2.1)), (6, .int (nI (t + 1)))]) [2, 3, 4, 5, 0] rfl
          have g0 : (v_Mo_prepareFourV_L18 zI zL j t).1 = (v_Mo_prepareFourV_L18 zI zL j (t + 1)).1 := by subst ezI17 ex15 ex14 ey13 ey8 ey4; (rw [v_Mo_prepareFourV_L18_s, if_pos hb9, if_pos hb10]) <;> rfl
          have g1 : (v_Mo_prepareFourV_L18 zI zL j t).2.1 = (v_Mo_prepareFourV_L18 zI zL j (t + 1)).2.1 := by subst ezI17 ex15 ex14 ey13 ey8 ey4; (rw [v_Mo_prepareFourV_L18_s, if_pos hb9, if_pos hb10]) <;> rfl
          have g2 : zI17 = (v_Mo_prepareFourV_L18 zI zL j (t + 1)).2.2 := by subst ezI17 ex15 ex14 ey13 ey8 ey4; (rw [v_Mo_prepareFourV_L18_s, if_pos hb9, if_pos hb10]) <;> rfl
          have hl : lv_has ls 9 [(0, .ref (aw_m ad 0)), (1, .int (nI j)), (2, .long ((v_Mo_prepareFourV_L18 zI zL j (t + 1)).1)), (4, .long ((v_Mo_prepareFourV_L18 zI zL j (t + 1)).2.1)), (6, .int (nI (t + 1)))] := by rw [← g0, ← g1]; exact hl
          have hSh : az_Sh g ad zG zO zX zY zA zB zM ((v_Mo_prepareFourV_L18 zI zL j (t + 1)).2.2) zL zK zN zF zQ L := by rw [← g2]; exact hSh
          exact ih (t + 1) H locs L ls (by omega) hP hD hSh hS (by first | exact hl | simpa [Nat.add_assoc, Nat.mul_add, Nat.add_comm] using hl)
        · have nhb10 : ¬ 4 ≤ t % 8 := fun z => absurd ((nI_leI (by omega) (by omega)).mpr z) hb10
          refine lv_lload_n hx hb d_Mo_prepareFour_74 rfl (lv_at hl 2 rfl) ?_
          refine lv_goto (tgt := 80) hx hb d_Mo_prepareFour_75 (by decide) ?_
          refine lv_lstore hx hb d_Mo_prepareFour_80 hl (by decide) rfl (fun ls hl => ?_)
          have hl : lv_has ls 9 [(7, .long ((v_Mo_prepareFourV_L18 zI zL j t).1)), (0, .ref (aw_m ad 0)), (1, .int (nI j)), (2, .long ((v_Mo_prepareFourV_L18 zI zL j t).1)), (4, .long ((v_Mo_prepareFourV_L18 zI zL j t).2.1)), (6, .int (nI t))] := hl
          refine lv_aload_n hx hb d_Mo_prepareFour_82 rfl (lv_at hl 1 rfl) ?_
          obtain ⟨hsd19, he18⟩ := zr_M0 hSh
          refine va_get (C := R_Mo) (T := T_Mo) (N := 19) (v := .ref (aw_m ad 15)) hx hb hG in_Mo hown hK hP 67 he18 rfl 17 (by decide) (hG _ gw_9_42) (fun _ h => h) rfl d_Mo_prepareFour_83 ?_
          clear he18
          refine lv_iload hx hb d_Mo_prepareFour_86 (lv_at hl 5 rfl) ?_
          refine lv_lload hx hb d_Mo_prepareFour_88 (lv_at hl 0 rfl) ?_
          refine lv_bipush (v := nI 48) hx hb d_Mo_prepareFour_90 (by decide +kernel) ?_
          refine lv_bipush (v := nI 16) hx hb d_Mo_prepareFour_92 (by decide +kernel) ?_
          refine lv_iload hx hb d_Mo_prepareFour_94 (lv_at hl 5 rfl) ?_
          refine lv_iconst (v := nI 4) hx hb d_Mo_prepareFour_96 (by decide +kernel) ?_
          refine lv_irem hx hb d_Mo_prepareFour_97 (by decide +kernel) ?_
          refine aw_ti (pk_rem (a := t) (d := 4) (by omega) (by omega) (by omega)) ?_
          refine lv_imul hx hb d_Mo_prepareFour_98 ?_
          refine aw_ti (pk_mul 16 (t % 4)) ?_
          refine lv_isub hx hb d_Mo_prepareFour_99 ?_
          refine aw_ti (pk_sub (a := 48) (b := (16 * (t % 4))) (by omega)) ?_
          refine lv_lushr hx hb d_Mo_prepareFour_100 rfl ?_
          refine ag_topl (fun y20 ey20 => ?_)
          refine lv_l2i hx hb d_Mo_prepareFour_101 rfl ?_
          refine ag_topi (fun x21 ex21 => ?_)
          refine lv_ldc (v := 65535) hx hb hown (hG _ gw_11_36) d_Mo_prepareFour_102 ?_
          refine lv_iand hx hb d_Mo_prepareFour_104 ?_
          refine ag_topi (fun x22 ex22 => ?_)
          have he23 := zr_M15 hSh
          refine ag_ist hx hb hK hP hD hS 82 0 he23 rfl (k := t) (by omega) (by decide) d_Mo_prepareFour_105 (zw_I15w hSh t x22) ?_
          clear hP hD hSh hS he23
          intro H locs L hP hD hSh hS
          obtain ⟨zI24, ezI24⟩ : ∃ z : Nat → Nat → Int32, az_v ((v_Mo_prepareFourV_L18 zI zL j t).2.2) 15 t x22 = z := ⟨_, rfl⟩
          rw [ezI24] at hSh
          refine lv_iinc (k := 5) (v := nI (t + 1)) hx hb d_Mo_prepareFour_106 hl rfl (aw_inc t 1 1 (by decide +kernel)) (by decide) rfl (fun ls hl => ?_)
          have hl : lv_has ls 9 [(6, .int (nI (t + 1))), (7, .long ((v_Mo_prepareFourV_L18 zI zL j t).1)), (0, .ref (aw_m ad 0)), (1, .int (nI j)), (2, .long ((v_Mo_prepareFourV_L18 zI zL j t).1)), (4, .long ((v_Mo_prepareFourV_L18 zI zL j t).2.1))] := hl
          refine lv_goto (tgt := 18) hx hb d_Mo_prepareFour_109 (by decide) ?_
          have hl := lv_sub hl (l' := [(0, .ref (aw_m ad 0)), (1, .int (nI j)), (2, .long ((v_Mo_prepareFourV_L18 zI zL j t).1)), (4, .long ((v_Mo_prepareFourV_L18 zI zL j t).2.1)), (6, .int (nI (t + 1)))]) [2, 3, 4, 5, 0] rfl
          have g0 : (v_Mo_prepareFourV_L18 zI zL j t).1 = (v_Mo_prepareFourV_L18 zI zL j (t + 1)).1 := by subst ezI24 ex22 ex21 ey20 ey8 ey4; (rw [v_Mo_prepareFourV_L18_s, if_pos hb9, if_neg hb10]) <;> rfl
          have g1 : (v_Mo_prepareFourV_L18 zI zL j t).2.1 = (v_Mo_prepareFourV_L18 zI zL j (t + 1)).2.1 := by subst ezI24 ex22 ex21 ey20 ey8 ey4; (rw [v_Mo_prepareFourV_L18_s, if_pos hb9, if_neg hb10]) <;> rfl
          have g2 : zI24 = (v_Mo_prepareFourV_L18 zI zL j (t + 1)).2.2 := by subst ezI24 ex22 ex21 ey20 ey8 ey4; (rw [v_Mo_prepareFourV_L18_s, if_pos hb9, if_neg hb10]) <;> rfl
          have hl : lv_has ls 9 [(0, .ref (aw_m ad 0)), (1, .int (nI j)), (2, .long ((v_Mo_prepareFourV_L18 zI zL j (t + 1)).1)), (4, .long ((v_Mo_prepareFourV_L18 zI zL j (t + 1)).2.1)), (6, .int (nI (t + 1)))] := by rw [← g0, ← g1]; exact hl
          have hSh : az_Sh g ad zG zO zX zY zA zB zM ((v_Mo_prepareFourV_L18 zI zL j (t + 1)).2.2) zL zK zN zF zQ L := by rw [← g2]; exact hSh
          exact ih (t + 1) H locs L ls (by omega) hP hD hSh hS (by first | exact hl | simpa [Nat.add_assoc, Nat.mul_add, Nat.add_comm] using hl)
      · have nhb9 : ¬ t ≤ 0 := fun z => absurd ((nI_leI (by omega) (by omega)).mpr z) (show ¬ nI t ≤ nI 0 from hb9)
        refine lv_iload hx hb d_Mo_prepareFour_30 (lv_at hl 4 rfl) ?_
        refine lv_bipush (v := nI 8) hx hb d_Mo_prepareFour_32 (by decide +kernel) ?_
        refine lv_irem hx hb d_Mo_prepareFour_34 (by decide +kernel) ?_
        refine aw_ti (pk_rem (a := t) (d := 8) (by omega) (by omega) (by omega)) ?_
        refine lv_if_ne (tgt := 65) hx hb d_Mo_prepareFour_35 (by decide) (fun hb25 => ?_) (fun hb25 => ?_)
        · have nhb25 : ¬ t % 8 = 0 := fun z => absurd ((nI_eq (by omega) (by omega)).mpr z) (show ¬ nI (t % 8) = nI 0 from hb25)
          refine lv_iload hx hb d_Mo_prepareFour_65 (lv_at hl 4 rfl) ?_
          refine lv_bipush (v := nI 8) hx hb d_Mo_prepareFour_67 (by decide +kernel) ?_
          refine lv_irem hx hb d_Mo_prepareFour_69 (by decide +kernel) ?_
          refine aw_ti (pk_rem (a := t) (d := 8) (by omega) (by omega) (by omega)) ?_
          refine lv_iconst (v := nI 4) hx hb d_Mo_prepareFour_70 (by decide +kernel) ?_
          refine lv_icmp_ge (tgt := 78) hx hb d_Mo_prepareFour_71 (by decide) (fun hb26 => ?_) (fun hb26 => ?_)
          · have nhb26 : 4 ≤ t % 8 := (nI_leI (by omega) (by omega)).mp hb26
            refine lv_lload hx hb d_Mo_prepareFour_78 (lv_at hl 3 rfl) ?_
            refine lv_lstore hx hb d_Mo_prepareFour_80 hl (by decide) rfl (fun ls hl => ?_)
            have hl : lv_has ls 9 [(7, .long ((v_Mo_prepareFourV_L18 zI zL j t).2.1)), (0, .ref (aw_m ad 0)), (1, .int (nI j)), (2, .long ((v_Mo_prepareFourV_L18 zI zL j t).1)), (4, .long ((v_Mo_prepareFourV_L18 zI zL j t).2.1)), (6, .int (nI t))] := hl
            refine lv_aload_n hx hb d_Mo_prepareFour_82 rfl (lv_at hl 1 rfl) ?_
            obtain ⟨hsd28, he27⟩ := zr_M0 hSh
            refine va_get (C := R_Mo) (T := T_Mo) (N := 19) (v := .ref (aw_m ad 15)) hx hb hG in_Mo hown hK hP 67 he27 rfl 17 (by decide) (hG _ gw_9_42) (fun _ h => h) rfl d_Mo_prepareFour_83 ?_
            clear he27
            refine lv_iload hx hb d_Mo_prepareFour_86 (lv_at hl 5 rfl) ?_
            refine lv_lload hx hb d_Mo_prepareFour_88 (lv_at hl 0 rfl) ?_
            refine lv_bipush (v := nI 48) hx hb d_Mo_prepareFour_90 (by decide +kernel) ?_
            refine lv_bipush (v := nI 16) hx hb d_Mo_prepareFour_92 (by decide +kernel) ?_
            refine lv_iload hx hb d_Mo_prepareFour_94 (lv_at hl 5 rfl) ?_
            refine lv_iconst (v := nI 4) hx hb d_Mo_prepareFour_96 (by decide +kernel) ?_
            refine lv_irem hx hb d_Mo_prepareFour_97 (by decide +kernel) ?_
            refine aw_ti (pk_rem (a := t) (d := 4) (by omega) (by omega) (by omega)) ?_
            refine lv_imul hx hb d_Mo_prepareFour_98 ?_
            refine aw_ti (pk_mul 16 (t % 4)) ?_
            refine lv_isub hx hb d_Mo_prepareFour_99 ?_
            refine aw_ti (pk_sub (a := 48) (b := (16 * (t % 4))) (by omega)) ?_
            refine lv_lushr hx hb d_Mo_prepareFour_100 rfl ?_
            refine ag_topl (fun y29 ey29 => ?_)
            refine lv_l2i hx hb d_Mo_prepareFour_101 rfl ?_
            refine ag_topi (fun x30 ex30 => ?_)
            refine lv_ldc (v := 65535) hx hb hown (hG _ gw_11_36) d_Mo_prepareFour_102 ?_
            refine lv_iand hx hb d_Mo_prepareFour_104 ?_
            refine ag_topi (fun x31 ex31 => ?_)
            have he32 := zr_M15 hSh
            refine ag_ist hx hb hK hP hD hS 82 0 he32 rfl (k := t) (by omega) (by decide) d_Mo_prepareFour_105 (zw_I15w hSh t x31) ?_
            clear hP hD hSh hS he32
            intro H locs L hP hD hSh hS
            obtain ⟨zI33, ezI33⟩ : ∃ z : Nat → Nat → Int32, az_v ((v_Mo_prepareFourV_L18 zI zL j t).2.2) 15 t x31 = z := ⟨_, rfl⟩
            rw [ezI33] at hSh
            refine lv_iinc (k := 5) (v := nI (t + 1)) hx hb d_Mo_prepareFour_106 hl rfl (aw_inc t 1 1 (by decide +kernel)) (by decide) rfl (fun ls hl => ?_)
            have hl : lv_has ls 9 [(6, .int (nI (t + 1))), (7, .long ((v_Mo_prepareFourV_L18 zI zL j t).2.1)), (0, .ref (aw_m ad 0)), (1, .int (nI j)), (2, .long ((v_Mo_prepareFourV_L18 zI zL j t).1)), (4, .long ((v_Mo_prepareFourV_L18 zI zL j t).2.1))] := hl
            refine lv_goto (tgt := 18) hx hb d_Mo_prepareFour_109 (by decide) ?_
            have hl := lv_sub hl (l' := [(0, .ref (aw_m ad 0)), (1, .int (nI j)), (2, .long ((v_Mo_prepareFourV_L18 zI zL j t).1)), (4, .long ((v_Mo_prepareFourV_L18 zI zL j t).2.1)), (6, .int (nI (t + 1)))]) [2, 3, 4, 5, 0] rfl
            have g0 : (v_Mo_prepareFourV_L18 zI zL j t).1 = (v_Mo_prepareFourV_L18 zI zL j (t + 1)).1 := by subst ezI33 ex31 ex30 ey29 ey8 ey4; (rw [v_Mo_prepareFourV_L18_s, if_neg hb9, if_neg hb25, if_pos hb26]) <;> rfl
            have g1 : (v_Mo_prepareFourV_L18 zI zL j t).2.1 = (v_Mo_prepareFourV_L18 zI zL j (t + 1)).2.1 := by subst ezI33 ex31 ex30 ey29 ey8 ey4; (rw [v_Mo_prepareFourV_L18_s, if_neg hb9, if_neg hb25, if_pos hb26]) <;> rfl
            have g2 : zI33 = (v_Mo_prepareFourV_L18 zI zL j (t + 1)).2.2 := by subst ezI33 ex31 ex30 ey29 ey8 ey4; (rw [v_Mo_prepareFourV_L18_s, if_neg hb9, if_neg hb25, if_pos hb26]) <;> rfl
            have hl : lv_has ls 9 [(0, .ref (aw_m ad 0)), (1, .int (nI j)), (2, .long ((v_Mo_prepareFourV_L18 zI zL j (t + 1)).1)), (4, .long ((v_Mo_prepareFourV_L18 zI zL j (t + 1)).2.1)), (6, .int (nI (t + 1)))] := by rw [← g0, ← g1]; exact hl
            have hSh : az_Sh g ad zG zO zX zY zA zB zM ((v_Mo_prepareFourV_L18 zI zL j (t + 1)).2.2) zL zK zN zF zQ L := by rw [← g2]; exact hSh
            exact ih (t + 1) H locs L ls (by omega) hP hD hSh hS (by first | exact hl | simpa [Nat.add_assoc, Nat.mul_add, Nat.add_comm] using hl)
          · have nhb26 : ¬ 4 ≤ t % 8 := fun z => absurd ((nI_leI (by omega) (by omega)).mpr z) hb26
            refine lv_lload_n hx hb d_Mo_prepareFour_74 rfl (lv_at hl 2 rfl) ?_
            refine lv_goto (tgt := 80) hx hb d_Mo_prepareFour_75 (by decide) ?_
            refine lv_lstore hx hb d_Mo_prepareFour_80 hl (by decide) rfl (fun ls hl => ?_)
            have hl : lv_has ls 9 [(7, .long ((v_Mo_prepareFourV_L18 zI zL j t).1)), (0, .ref (aw_m ad 0)), (1, .int (nI j)), (2, .long ((v_Mo_prepareFourV_L18 zI zL j t).1)), (4, .long ((v_Mo_prepareFourV_L18 zI zL j t).2.1)), (6, .int (nI t))] := hl
            refine lv_aload_n hx hb d_Mo_prepareFour_82 rfl (lv_at hl 1 rfl) ?_
            obtain ⟨hsd35, he34⟩ := zr_M0 hSh
            refine va_get (C := R_Mo) (T := T_Mo) (N := 19) (v := .ref (aw_m ad 15)) hx hb hG in_Mo hown hK hP 67 he34 rfl 17 (by decide) (hG _ gw_9_42) (fun _ h => h) rfl d_Mo_prepareFour_83 ?_
            clear he34
            refine lv_iload hx hb d_Mo_prepareFour_86 (lv_at hl 5 rfl) ?_
            refine lv_lload hx hb d_Mo_prepareFour_88 (lv_at hl 0 rfl) ?_
            refine lv_bipush (v := nI 48) hx hb d_Mo_prepareFour_90 (by decide +kernel) ?_
            refine lv_bipush (v := nI 16) hx hb d_Mo_prepareFour_92 (by decide +kernel) ?_
            refine lv_iload hx hb d_Mo_prepareFour_94 (lv_at hl 5 rfl) ?_
            refine lv_iconst (v := nI 4) hx hb d_Mo_prepareFour_96 (by decide +kernel) ?_
            refine lv_irem hx hb d_Mo_prepareFour_97 (by decide +kernel) ?_
            refine aw_ti (pk_rem (a := t) (d := 4) (by omega) (by omega) (by omega)) ?_
            refine lv_imul hx hb d_Mo_prepareFour_98 ?_
            refine aw_ti (pk_mul 16 (t % 4)) ?_
            refine lv_isub hx hb d_Mo_prepareFour_99 ?_
            refine aw_ti (pk_sub (a := 48) (b := (16 * (t % 4))) (by omega)) ?_
            refine lv_lushr hx hb d_Mo_prepareFour_100 rfl ?_
            refine ag_topl (fun y36 ey36 => ?_)
            refine lv_l2i hx hb d_Mo_prepareFour_101 rfl ?_
            refine ag_topi (fun x37 ex37 => ?_)
            refine lv_ldc (v := 65535) hx hb hown (hG _ gw_11_36) d_Mo_prepareFour_102 ?_
            refine lv_iand hx hb d_Mo_prepareFour_104 ?_
            refine ag_topi (fun x38 ex38 => ?_)
            have he39 := zr_M15 hSh
            refine ag_ist hx hb hK hP hD hS 82 0 he39 rfl (k := t) (by omega) (by decide) d_Mo_prepareFour_105 (zw_I15w hSh t x38) ?_
            clear hP hD hSh hS he39
            intro H locs L hP hD hSh hS
            obtain ⟨zI40, ezI40⟩ : ∃ z : Nat → Nat → Int32, az_v ((v_Mo_prepareFourV_L18 zI zL j t).2.2) 15 t x38 = z := ⟨_, rfl⟩
            rw [ezI40] at hSh
            refine lv_iinc (k := 5) (v := nI (t + 1)) hx hb d_Mo_prepareFour_106 hl rfl (aw_inc t 1 1 (by decide +kernel)) (by decide) rfl (fun ls hl => ?_)
            have hl : lv_has ls 9 [(6, .int (nI (t + 1))), (7, .long ((v_Mo_prepareFourV_L18 zI zL j t).1)), (0, .ref (aw_m ad 0)), (1, .int (nI j)), (2, .long ((v_Mo_prepareFourV_L18 zI zL j t).1)), (4, .long ((v_Mo_prepareFourV_L18 zI zL j t).2.1))] := hl
            refine lv_goto (tgt := 18) hx hb d_Mo_prepareFour_109 (by decide) ?_
            have hl := lv_sub hl (l' := [(0, .ref (aw_m ad 0)), (1, .int (nI j)), (2, .long ((v_Mo_prepareFourV_L18 zI zL j t).1)), (4, .long ((v_Mo_prepareFourV_L18 zI zL j t).2.1)), (6, .int (nI (t + 1)))]) [2, 3, 4, 5, 0] rfl
            have g0 : (v_Mo_prepareFourV_L18 zI zL j t).1 = (v_Mo_prepareFourV_L18 zI zL j (t + 1)).1 := by subst ezI40 ex38 ex37 ey36 ey8 ey4; (rw [v_Mo_prepareFourV_L18_s, if_neg hb9, if_neg hb25, if_neg hb26]) <;> rfl
            have g1 : (v_Mo_prepareFourV_L18 zI zL j t).2.1 = (v_Mo_prepareFourV_L18 zI zL j (t + 1)).2.1 := by subst ezI40 ex38 ex37 ey36 ey8 ey4; (rw [v_Mo_prepareFourV_L18_s, if_neg hb9, if_neg hb25, if_neg hb26]) <;> rfl
            have g2 : zI40 = (v_Mo_prepareFourV_L18 zI zL j (t + 1)).2.2 := by subst ezI40 ex38 ex37 ey36 ey8 ey4; (rw [v_Mo_prepareFourV_L18_s, if_neg hb9, if_neg hb25, if_neg hb26]) <;> rfl
            have hl : lv_has ls 9 [(0, .ref (aw_m ad 0)), (1, .int (nI j)), (2, .long ((v_Mo_prepareFourV_L18 zI zL j (t + 1)).1)), (4, .long ((v_Mo_prepareFourV_L18 zI zL j (t + 1)).2.1)), (6, .int (nI (t + 1)))] := by rw [← g0, ← g1]; exact hl
            have hSh : az_Sh g ad zG zO zX zY zA zB zM ((v_Mo_prepareFourV_L18 zI zL j (t + 1)).2.2) zL zK zN zF zQ L := by rw [← g2]; exact hSh
            exact ih (t + 1) H locs L ls (by omega) hP hD hSh hS (by first | exact hl | simpa [Nat.add_assoc, Nat.mul_add, Nat.add_comm] using hl)
        · have nhb25 : t % 8 = 0 := (nI_eq (by omega) (by omega)).mp (show nI (t % 8) = nI 0 from hb25)
          refine lv_lload_n hx hb d_Mo_prepareFour_38 rfl (lv_at hl 2 rfl) ?_
          refine lv_bipush (v := nI 25) hx hb d_Mo_prepareFour_39 (by decide +kernel) ?_
          refine lv_lshl hx hb d_Mo_prepareFour_41 rfl ?_
          refine ag_topl (fun y41 ey41 => ?_)
          refine lv_lload hx hb d_Mo_prepareFour_42 (lv_at hl 3 rfl) ?_
          refine lv_bipush (v := nI 39) hx hb d_Mo_prepareFour_44 (by decide +kernel) ?_
          refine lv_lushr hx hb d_Mo_prepareFour_46 rfl ?_
          refine ag_topl (fun y42 ey42 => ?_)
          refine lv_lor hx hb d_Mo_prepareFour_47 ?_
          refine ag_topl (fun y43 ey43 => ?_)
          refine lv_lstore hx hb d_Mo_prepareFour_48 hl (by decide) rfl (fun ls hl => ?_)
          have hl : lv_has ls 9 [(7, .long y43), (0, .ref (aw_m ad 0)), (1, .int (nI j)), (2, .long ((v_Mo_prepareFourV_L18 zI zL j t).1)), (4, .long ((v_Mo_prepareFourV_L18 zI zL j t).2.1)), (6, .int (nI t))] := hl
          refine lv_lload hx hb d_Mo_prepareFour_50 (lv_at hl 4 rfl) ?_
          refine lv_bipush (v := nI 25) hx hb d_Mo_prepareFour_52 (by decide +kernel) ?_
          refine lv_lshl hx hb d_Mo_prepareFour_54 rfl ?_
          refine ag_topl (fun y44 ey44 => ?_)
          refine lv_lload_n hx hb d_Mo_prepareFour_55 rfl (lv_at hl 3 rfl) ?_
          refine lv_bipush (v := nI 39) hx hb d_Mo_prepareFour_56 (by decide +kernel) ?_
          refine lv_lushr hx hb d_Mo_prepareFour_58 rfl ?_
          refine ag_topl (fun y45 ey45 => ?_)
          refine lv_lor hx hb d_Mo_prepareFour_59 ?_
          refine ag_topl (fun y46 ey46 => ?_)
          refine lv_lstore hx hb d_Mo_prepareFour_60 hl (by decide) rfl (fun ls hl => ?_)
          have hl : lv_has ls 9 [(4, .long y46), (7, .long y43), (0, .ref (aw_m ad 0)), (1, .int (nI j)), (2, .long ((v_Mo_prepareFourV_L18 zI zL j t).1)), (6, .int (nI t))] := hl
          refine lv_lload hx hb d_Mo_prepareFour_62 (lv_at hl 1 rfl) ?_
          refine lv_lstore_n hx hb d_Mo_prepareFour_64 rfl hl (by decide) rfl (fun ls hl => ?_)
          have hl : lv_has ls 9 [(2, .long y43), (4, .long y46), (7, .long y43), (0, .ref (aw_m ad 0)), (1, .int (nI j)), (6, .int (nI t))] := hl
          refine lv_iload hx hb d_Mo_prepareFour_65 (lv_at hl 5 rfl) ?_
          refine lv_bipush (v := nI 8) hx hb d_Mo_prepareFour_67 (by decide +kernel) ?_
          refine lv_irem hx hb d_Mo_prepareFour_69 (by decide +kernel) ?_
          refine aw_ti (pk_rem (a := t) (d := 8) (by omega) (by omega) (by omega)) ?_
          refine lv_iconst (v := nI 4) hx hb d_Mo_prepareFour_70 (by decide +kernel) ?_
          refine lv_icmp_ge (tgt := 78) hx hb d_Mo_prepareFour_71 (by decide) (fun h => absurd h (show ¬ nI 4 ≤ nI (t % 8) from fun h9 => absurd ((nI_leI (by omega) (by omega)).mp h9) (by omega))) (fun _ => ?_)
          refine lv_lload_n hx hb d_Mo_prepareFour_74 rfl (lv_at hl 0 rfl) ?_
          refine lv_goto (tgt := 80) hx hb d_Mo_prepareFour_75 (by decide) ?_
          refine lv_lstore hx hb d_Mo_prepareFour_80 hl (by decide) rfl (fun ls hl => ?_)
          have hl : lv_has ls 9 [(7, .long y43), (2, .long y43), (4, .long y46), (0, .ref (aw_m ad 0)), (1, .int (nI j)), (6, .int (nI t))] := hl
          refine lv_aload_n hx hb d_Mo_prepareFour_82 rfl (lv_at hl 3 rfl) ?_
          obtain ⟨hsd48, he47⟩ := zr_M0 hSh
          refine va_get (C := R_Mo) (T := T_Mo) (N := 19) (v := .ref (aw_m ad 15)) hx hb hG in_Mo hown hK hP 67 he47 rfl 17 (by decide) (hG _ gw_9_42) (fun _ h => h) rfl d_Mo_prepareFour_83 ?_
          clear he47
          refine lv_iload hx hb d_Mo_prepareFour_86 (lv_at hl 5 rfl) ?_
          refine lv_lload hx hb d_Mo_prepareFour_88 (lv_at hl 0 rfl) ?_
          refine lv_bipush (v := nI 48) hx hb d_Mo_prepareFour_90 (by decide +kernel) ?_
          refine lv_bipush (v := nI 16) hx hb d_Mo_prepareFour_92 (by decide +kernel) ?_
          refine lv_iload hx hb d_Mo_prepareFour_94 (lv_at hl 5 rfl) ?_
          refine lv_iconst (v := nI 4) hx hb d_Mo_prepareFour_96 (by decide +kernel) ?_
          refine lv_irem hx hb d_Mo_prepareFour_97 (by decide +kernel) ?_
          refine aw_ti (pk_rem (a := t) (d := 4) (by omega) (by omega) (by omega)) ?_
          refine lv_imul hx hb d_Mo_prepareFour_98 ?_
          refine aw_ti (pk_mul 16 (t % 4)) ?_
          refine lv_isub hx hb d_Mo_prepareFour_99 ?_
          refine aw_ti (pk_sub (a := 48) (b := (16 * (t % 4))) (by omega)) ?_
          refine lv_lushr hx hb d_Mo_prepareFour_100 rfl ?_
          refine ag_topl (fun y49 ey49 => ?_)
          refine lv_l2i hx hb d_Mo_prepareFour_101 rfl ?_
          refine ag_topi (fun x50 ex50 => ?_)
          refine lv_ldc (v := 65535) hx hb hown (hG _ gw_11_36) d_Mo_prepareFour_102 ?_
          refine lv_iand hx hb d_Mo_prepareFour_104 ?_
          refine ag_topi (fun x51 ex51 => ?_)
          have he52 := zr_M15 hSh
          refine ag_ist hx hb hK hP hD hS 82 0 he52 rfl (k := t) (by omega) (by decide) d_Mo_prepareFour_105 (zw_I15w hSh t x51) ?_
          clear hP hD hSh hS he52
          intro H locs L hP hD hSh hS
          obtain ⟨zI53, ezI53⟩ : ∃ z : Nat → Nat → Int32, az_v ((v_Mo_prepareFourV_L18 zI zL j t).2.2) 15 t x51 = z := ⟨_, rfl⟩
          rw [ezI53] at hSh
          refine lv_iinc (k := 5) (v := nI (t + 1)) hx hb d_Mo_prepareFour_106 hl rfl (aw_inc t 1 1 (by decide +kernel)) (by decide) rfl (fun ls hl => ?_)
          have hl : lv_has ls 9 [(6, .int (nI (t + 1))), (7, .long y43), (2, .long y43), (4, .long y46), (0, .ref (aw_m ad 0)), (1, .int (nI j))] := hl
          refine lv_goto (tgt := 18) hx hb d_Mo_prepareFour_109 (by decide) ?_
          have hl := lv_sub hl (l' := [(0, .ref (aw_m ad 0)), (1, .int (nI j)), (2, .long y43), (4, .long y46), (6, .int (nI (t + 1)))]) [4, 5, 2, 3, 0] rfl
          have g0 : y43 = (v_Mo_prepareFourV_L18 zI zL j (t + 1)).1 := by subst ezI53 ex51 ex50 ey49 ey46 ey45 ey44 ey43 ey42 ey41 ey8 ey4; (rw [v_Mo_prepareFourV_L18_s, if_neg hb9, if_pos hb25]) <;> rfl
          have g1 : y46 = (v_Mo_prepareFourV_L18 zI zL j (t + 1)).2.1 := by subst ezI53 ex51 ex50 ey49 ey46 ey45 ey44 ey43 ey42 ey41 ey8 ey4; (rw [v_Mo_prepareFourV_L18_s, if_neg hb9, if_pos hb25]) <;> rfl
          have g2 : zI53 = (v_Mo_prepareFourV_L18 zI zL j (t + 1)).2.2 := by subst ezI53 ex51 ex50 ey49 ey46 ey45 ey44 ey43 ey42 ey41 ey8 ey4; (rw [v_Mo_prepareFourV_L18_s, if_neg hb9, if_pos hb25]) <;> rfl
          have hl : lv_has ls 9 [(0, .ref (aw_m ad 0)), (1, .int (nI j)), (2, .long ((v_Mo_prepareFourV_L18 zI zL j (t + 1)).1)), (4, .long ((v_Mo_prepareFourV_L18 zI zL j (t + 1)).2.1)), (6, .int (nI (t + 1)))] := by rw [← g0, ← g1]; exact hl
          have hSh : az_Sh g ad zG zO zX zY zA zB zM ((v_Mo_prepareFourV_L18 zI zL j (t + 1)).2.2) zL zK zN zF zQ L := by rw [← g2]; exact hSh
          exact ih (t + 1) H locs L ls (by omega) hP hD hSh hS (by first | exact hl | simpa [Nat.add_assoc, Nat.mul_add, Nat.add_comm] using hl)
  have hl := lv_sub hl (l' := [(0, .ref (aw_m ad 0)), (1, .int (nI j)), (2, .long y4), (4, .long y8), (6, .int (nI 0))]) [3, 4, 2, 1, 0] rfl
  have g0 : y4 = (v_Mo_prepareFourV_L18 zI zL j 0).1 := by subst ey8 ey4; (rw [v_Mo_prepareFourV_L18_z]) <;> rfl
  have g1 : y8 = (v_Mo_prepareFourV_L18 zI zL j 0).2.1 := by subst ey8 ey4; (rw [v_Mo_prepareFourV_L18_z]) <;> rfl
  have g2 : zI = (v_Mo_prepareFourV_L18 zI zL j 0).2.2 := by subst ey8 ey4; (rw [v_Mo_prepareFourV_L18_z]) <;> rfl
  have hl : lv_has ls 9 [(0, .ref (aw_m ad 0)), (1, .int (nI j)), (2, .long ((v_Mo_prepareFourV_L18 zI zL j 0).1)), (4, .long ((v_Mo_prepareFourV_L18 zI zL j 0).2.1)), (6, .int (nI 0))] := by rw [← g0, ← g1]; exact hl
  have hSh : az_Sh g ad zG zO zX zY zA zB zM ((v_Mo_prepareFourV_L18 zI zL j 0).2.2) zL zK zN zF zQ L := by rw [← g2]; exact hSh
  exact L18 52 0 _ _ L ls (by omega) hP hD hSh hS (by first | exact hl | simpa using hl)
noncomputable def v_Mo_prepare0V_zI (zI : Nat → Nat → Int32) (zL : Nat → Nat → Int64) (j : Nat) : Nat → Nat → Int32 := v_Mo_prepareZeroV_zI zI zL j
abbrev ws_Mo_prepare0V : List Cond := Cond.code y_Mo_prepare b_Mo_prepare 4 none :: aw_G
abbrev rm_Mo_prepare0V : Room := { frames := 3, cells := 0, slots := 0, locals := 71 }
set_option maxHeartbeats 4000000 in
set_option maxRecDepth 100000 in
theorem k_Mo_prepare0V (l : Launch) (D : va_G) (g : Nat → ClassId) (ad : Nat → Nat) (N0 : Nat) (zG : Nat → Nat × Nat) (zO : Nat → Nat) (zX : Nat → Nat → Int64) (zY : Nat → Nat → Int32) (zA : Nat → Nat → Nat → Int32) (zB : Nat → Int32) (zM : Nat → Nat × Nat) (zI : Nat → Nat → Int32) (zL : Nat → Nat → Int64) (zK : Int32) (zN : Nat) (zF : Int32) (zQ : Int64) (j : Nat) (hj : j < 4) (hci : zI 3 j = nI 0) : Met l y_Mo_prepare ws_Mo_prepare0V rm_Mo_prepare0V (va_Pc ([.ref (aw_m ad 0), .int (nI j)] : List Value) (ag_B D g N0 (az_Sh g ad zG zO zX zY zA zB zM zI zL zK zN zF zQ))) (va_Qv (fun (_ : Unit) => True) (fun (_ : Unit) t => ag_H D N0 (az_Sh g ad zG zO zX zY zA zB zM (v_Mo_prepare0V_zI zI zL j) zL (nI 0) 26 zF zQ) t.heap) (aw_Z N0)) 0 0 (aw_Z N0) := by
  refine Met.ofW (cc := b_Mo_prepare) (maxL := 4) (ret := none) (by decide) rfl ?_
  intro p e s m args below meth c s₁ B hml hv
  obtain ⟨rfl, ⟨L, hP, hD, hSh⟩, hU⟩ := hv
  have hx := B.exec
  have hb := B.bytes
  have hr := B.returns
  have hG : ∀ w ∈ aw_G, w.before _ s = true := fun w h => atoms_spec (ws := ws_Mo_prepare0V) B.pre w (List.mem_cons_of_mem _ h)
  have hown : s.vm.findClass "RuleCiphersModel" = some m.cls := findClass_of_methodNamed B.named
  have hlocks := B.notSynchronized
  have hE := hU.1
  have hK := hE.1
  have hN := hE.2.1
  have hS : va_S (aw_Z N0) s.heap s.heap [] := va_S.rf
  have hl := lv_entry ([.ref (aw_m ad 0), .int (nI j)] : List Value) (n := 4) (Nat.le_of_ble_eq_true rfl)
  rw [lg_entry_eq]
  generalize (lg_sl ([.ref (aw_m ad 0), .int (nI j)] : List Value) ++ List.replicate (4 - (lg_sl ([.ref (aw_m ad 0), .int (nI j)] : List Value)).length) Slot.unset).toArray = ls at hl ⊢
  have hl : lv_has ls 4 [(0, .ref (aw_m ad 0)), (1, .int (nI j))] := hl
  refine lv_aload_n hx hb d_Mo_prepare_0 rfl (lv_at hl 0 rfl) ?_
  refine lv_aload_n hx hb d_Mo_prepare_1 rfl (lv_at hl 0 rfl) ?_
  obtain ⟨hsd2, he1⟩ := zr_M0 hSh
  refine va_get (C := R_Mo) (T := T_Mo) (N := 19) (v := .ref (aw_m ad 3)) hx hb hG in_Mo hown hK hP 67 he1 rfl 3 (by decide) (hG _ gw_9_28) (fun _ h => h) rfl d_Mo_prepare_2 ?_
  clear he1
  refine lv_iload_n hx hb d_Mo_prepare_5 rfl (lv_at hl 1 rfl) ?_
  have he3 := zr_M3 hSh
  refine aw_ild hx hb hK hP 70 0 he3 rfl (k := j) (by omega) (by decide) d_Mo_prepare_6 ?_
  clear he3
  refine aw_ti (y := nI 0) hci ?_
  obtain ⟨hsd5, he4⟩ := zr_M0 hSh
  refine ag_put (v := .int (nI 0)) (ty := .int) (C := R_Mo) (T := T_Mo) (N := 19) hx hb hG in_Mo t_Mo t_Mo_ok n_Mo hown hK hP hD hS 67 he4 rfl 15 (by decide) (hG _ gw_9_40) (fun _ h => h) rfl (by decide +kernel) rfl rfl (Nat.le_of_ble_eq_true rfl) d_Mo_prepare_7 (zw_K hSh (nI 0)) ?_
  clear hP hD hSh hS he4
  intro H locs L hP hD hSh hS
  refine lv_aload_n hx hb d_Mo_prepare_10 rfl (lv_at hl 0 rfl) ?_
  obtain ⟨hsd7, he6⟩ := zr_M0 hSh
  refine va_get (C := R_Mo) (T := T_Mo) (N := 19) (v := .int (nI 0)) hx hb hG in_Mo hown hK hP 67 he6 rfl 15 (by decide) (hG _ gw_9_40) (fun _ h => h) rfl d_Mo_prepare_11 ?_
  clear he6
  refine lv_tableIn (tgt := 44) (off := 30) hx hb d_Mo_prepare_14 (by decide +kernel) (by decide +kernel) (by decide +kernel) (by decide) ?_
  refine lv_aload_n hx hb d_Mo_prepare_44 rfl (lv_at hl 0 rfl) ?_
  refine lv_iload_n hx hb d_Mo_prepare_45 rfl (lv_at hl 1 rfl) ?_
  obtain ⟨_, he8⟩ := zr_M0 hSh
  refine va_callv (va_runV (As := [.int (nI j)]) (rest := []) ⟨hx, hb, hml, hown, hG⟩ (k_Mo_prepareZeroV l D g ad N0 zG zO zX zY zA zB zM zI zL (nI 0) zN zF zQ j hj) (aw_wV 1 hG gw_11_9 gw_11_7 gw_0_10 gw_11_8 gw_p_13 rfl rfl hd_Mo_prepareZero ⟨Nat.le_of_ble_eq_true rfl, Nat.le_of_ble_eq_true rfl⟩) (ag_qV (va_recv hK hP rfl he8) hP hD hSh hU hS) rfl rfl hl.1 rfl (lv_room (Nat.le_of_ble_eq_true rfl)) d_Mo_prepare_46 ⟨Nat.le_of_ble_eq_true rfl, Nat.le_of_ble_eq_true rfl⟩) hS (fun _ _ h => h) (fun _ h => h) ?_
  clear hP hD hSh hS he8
  intro u8 t8 H locs ht _ _ hB _ _ hS
  obtain ⟨L, hP, hD, hSh⟩ := hB
  rw [ht] at hP
  clear ht
  obtain ⟨zI9, ezI9⟩ : ∃ z : Nat → Nat → Int32, v_Mo_prepareZeroV_zI zI zL j = z := ⟨_, rfl⟩
  rw [ezI9] at hSh
  refine lv_goto (tgt := 329) hx hb d_Mo_prepare_49 (by decide) ?_
  have gzI : zI9 = v_Mo_prepare0V_zI zI zL j := by subst ezI9; rfl
  have hSh : az_Sh g ad zG zO zX zY zA zB zM (v_Mo_prepare0V_zI zI zL j) zL (nI 0) 26 zF zQ L := by rw [← gzI]; exact hSh
  exact W.vret hx hb hr (fun t ht hW => ⟨⟨(), rfl, trivial, ag_Hr ht hP hD hSh⟩, hS.F ht⟩) hS.2.2 d_Mo_prepare_329
noncomputable def v_Mo_prepare1V_L59 (zI : Nat → Nat → Int32) (zL : Nat → Nat → Int64) (j : Nat) (t : Nat) : (Nat → Nat → Int32) := Nat.rec (motive := fun _ => (Nat → Nat → Int32)) (zI) (fun t s => az_v (s) 15 t (v_Mo_quarterV zL j (nI t))) t
theorem v_Mo_prepare1V_L59_z (zI : Nat → Nat → Int32) (zL : Nat → Nat → Int64) (j : Nat) : v_Mo_prepare1V_L59 zI zL j 0 = (zI) := rfl
theorem v_Mo_prepare1V_L59_s (zI : Nat → Nat → Int32) (zL : Nat → Nat → Int64) (j : Nat) (t : Nat) : v_Mo_prepare1V_L59 zI zL j (t + 1) = az_v ((v_Mo_prepare1V_L59 zI zL j t)) 15 t (v_Mo_quarterV zL j (nI t)) := rfl
noncomputable def v_Mo_prepare1V_zI (zI : Nat → Nat → Int32) (zL : Nat → Nat → Int64) (j : Nat) : Nat → Nat → Int32 := (v_Mo_prepare1V_L59 zI zL j 4)
abbrev ws_Mo_prepare1V : List Cond := Cond.code y_Mo_prepare b_Mo_prepare 4 none :: aw_G
abbrev rm_Mo_prepare1V : Room := { frames := 3, cells := 0, slots := 0, locals := 71 }
set_option maxHeartbeats 4000000 in
set_option maxRecDepth 100000 in
theorem k_Mo_prepare1V (l : Launch) (D : va_G) (g : Nat → ClassId) (ad : Nat → Nat) (N0 : Nat) (zG : Nat → Nat × Nat) (zO : Nat → Nat) (zX : Nat → Nat → Int64) (zY : Nat → Nat → Int32) (zA : Nat → Nat → Nat → Int32) (zB : Nat → Int32) (zM : Nat → Nat × Nat) (zI : Nat → Nat → Int32) (zL : Nat → Nat → Int64) (zK : Int32) (zN : Nat) (zF : Int32) (zQ : Int64) (j : Nat) (hj : j < 4) (hci : zI 3 j = nI 1) : Met l y_Mo_prepare ws_Mo_prepare1V rm_Mo_prepare1V (va_Pc ([.ref (aw_m ad 0), .int (nI j)] : List Value) (ag_B D g N0 (az_Sh g ad zG zO zX zY zA zB zM zI zL zK zN zF zQ))) (va_Qv (fun (_ : Unit) => True) (fun (_ : Unit) t => ag_H D N0 (az_Sh g ad zG zO zX zY zA zB zM (v_Mo_prepare1V_zI zI zL j) zL (nI 1) 4 zF zQ) t.heap) (aw_Z N0)) 0 0 (aw_Z N0) := by
  refine Met.ofW (cc := b_Mo_prepare) (maxL := 4) (ret := none) (by decide) rfl ?_
  intro p e s m args below meth c s₁ B hml hv
  obtain ⟨rfl, ⟨L, hP, hD, hSh⟩, hU⟩ := hv
  have hx := B.exec
  have hb := B.bytes
  have hr := B.returns
  have hG : ∀ w ∈ aw_G, w.before _ s = true := fun w h => atoms_spec (ws := ws_Mo_prepare1V) B.pre w (List.mem_cons_of_mem _ h)
  have hown : s.vm.findClass "RuleCiphersModel" = some m.cls := findClass_of_methodNamed B.named
  have hlocks := B.notSynchronized
  have hE := hU.1
  have hK := hE.1
  have hN := hE.2.1
  have hS : va_S (aw_Z N0) s.heap s.heap [] := va_S.rf
  have hl := lv_entry ([.ref (aw_m ad 0), .int (nI j)] : List Value) (n := 4) (Nat.le_of_ble_eq_true rfl)
  rw [lg_entry_eq]
  generalize (lg_sl ([.ref (aw_m ad 0), .int (nI j)] : List Value) ++ List.replicate (4 - (lg_sl ([.ref (aw_m ad 0), .int (nI j)] : List Value)).length) Slot.unset).toArray = ls at hl ⊢
  have hl : lv_has ls 4 [(0, .ref (aw_m ad 0)), (1, .int (nI j))] := hl
  refine lv_aload_n hx hb d_Mo_prepare_0 rfl (lv_at hl 0 rfl) ?_
  refine lv_aload_n hx hb d_Mo_prepare_1 rfl (lv_at hl 0 rfl) ?_
  obtain ⟨hsd2, he1⟩ := zr_M0 hSh
  refine va_get (C := R_Mo) (T := T_Mo) (N := 19) (v := .ref (aw_m ad 3)) hx hb hG in_Mo hown hK hP 67 he1 rfl 3 (by decide) (hG _ gw_9_28) (fun _ h => h) rfl d_Mo_prepare_2 ?_
  clear he1
  refine lv_iload_n hx hb d_Mo_prepare_5 rfl (lv_at hl 1 rfl) ?_
  have he3 := zr_M3 hSh
  refine aw_ild hx hb hK hP 70 0 he3 rfl (k := j) (by omega) (by decide) d_Mo_prepare_6 ?_
  clear he3
  refine aw_ti (y := nI 1) hci ?_
  obtain ⟨hsd5, he4⟩ := zr_M0 hSh
  refine ag_put (v := .int (nI 1)) (ty := .int) (C := R_Mo) (T := T_Mo) (N := 19) hx hb hG in_Mo t_Mo t_Mo_ok n_Mo hown hK hP hD hS 67 he4 rfl 15 (by decide) (hG _ gw_9_40) (fun _ h => h) rfl (by decide +kernel) rfl rfl (Nat.le_of_ble_eq_true rfl) d_Mo_prepare_7 (zw_K hSh (nI 1)) ?_
  clear hP hD hSh hS he4
  intro H locs L hP hD hSh hS
  refine lv_aload_n hx hb d_Mo_prepare_10 rfl (lv_at hl 0 rfl) ?_
  obtain ⟨hsd7, he6⟩ := zr_M0 hSh
  refine va_get (C := R_Mo) (T := T_Mo) (N := 19) (v := .int (nI 1)) hx hb hG in_Mo hown hK hP 67 he6 rfl 15 (by decide) (hG _ gw_9_40) (fun _ h => h) rfl d_Mo_prepare_11 ?_
  clear he6
  refine lv_tableIn (tgt := 52) (off := 38) hx hb d_Mo_prepare_14 (by decide +kernel) (by decide +kernel) (by decide +kernel) (by decide) ?_
  refine lv_aload_n hx hb d_Mo_prepare_52 rfl (lv_at hl 0 rfl) ?_
  refine lv_iconst (v := nI 4) hx hb d_Mo_prepare_53 (by decide +kernel) ?_
  obtain ⟨hsd9, he8⟩ := zr_M0 hSh
  refine ag_put (v := .int (nI 4)) (ty := .int) (C := R_Mo) (T := T_Mo) (N := 19) hx hb hG in_Mo t_Mo t_Mo_ok n_Mo hown hK hP hD hS 67 he8 rfl 16 (by decide) (hG _ gw_9_41) (fun _ h => h) rfl (by decide +kernel) rfl rfl (Nat.le_of_ble_eq_true rfl) d_Mo_prepare_54 (zw_N hSh 4 (by omega)) ?_
  clear hP hD hSh hS he8
  intro H locs L hP hD hSh hS
  refine lv_iconst (v := nI 0) hx hb d_Mo_prepare_57 (by decide +kernel) ?_
  refine lv_istore_n hx hb d_Mo_prepare_58 rfl hl (by decide) rfl (fun ls hl => ?_)
  have hl : lv_has ls 4 [(2, .int (nI 0)), (0, .ref (aw_m ad 0)), (1, .int (nI j))] := hl
  have L59 : ∀ (d t : Nat) (H : Heap) (locs : List Loc) (L : va_W) (ls : Array Slot), t + d = 4 → va_P D aw_C L H → va_D (aw_Z N0) L → az_Sh g ad zG zO zX zY zA zB zM ((v_Mo_prepare1V_L59 zI zL j t)) zL (nI 1) 4 zF zQ L → va_S (aw_Z N0) s.heap H locs → lv_has ls 4 [(0, .ref (aw_m ad 0)), (1, .int (nI j)), (2, .int (nI t))] → W p l e (headSpec ws_Mo_prepare1V rm_Mo_prepare1V).room s m ([.ref (aw_m ad 0), .int (nI j)] : List Value).toArray below meth c H locs 0 0 (MQ below (va_Qv (fun (_ : Unit) => True) (fun (_ : Unit) t => ag_H D N0 (az_Sh g ad zG zO zX zY zA zB zM (v_Mo_prepare1V_zI zI zL j) zL (nI 1) 4 zF zQ) t.heap) (aw_Z N0)) ([.ref (aw_m ad 0), .int (nI j)] : List Value).toArray s 0 0 (aw_Z N0)) (F0 m 59 ls []) := by
    clear hl hP hD hSh hS
    intro d
    induction d with
    | zero =>
      intro t H locs L ls ht0 hP hD hSh hS hl
      have ht1 : t = 4 := by omega
      subst ht1
      refine lv_iload_n hx hb d_Mo_prepare_59 rfl (lv_at hl 2 rfl) ?_
      refine lv_iconst (v := nI 4) hx hb d_Mo_prepare_60 (by decide +kernel) ?_
      refine lv_icmp_ge (tgt := 82) hx hb d_Mo_prepare_61 (by decide) (fun _ => ?_) (fun h => absurd (show nI 4 ≤ nI 4 from (nI_leI (by omega) (by omega)).mpr (by omega)) h)
      refine lv_goto (tgt := 329) hx hb d_Mo_prepare_82 (by decide) ?_
      have gzI : (v_Mo_prepare1V_L59 zI zL j 4) = v_Mo_prepare1V_zI zI zL j := by rfl
      have hSh : az_Sh g ad zG zO zX zY zA zB zM (v_Mo_prepare1V_zI zI zL j) zL (nI 1) 4 zF zQ L := by rw [← gzI]; exact hSh
      exact W.vret hx hb hr (fun t ht hW => ⟨⟨(), rfl, trivial, ag_Hr ht hP hD hSh⟩, hS.F ht⟩) hS.2.2 d_Mo_prepare_329
    | succ d ih =>
      intro t H locs L ls ht0 hP hD hSh hS hl
      refine lv_iload_n hx hb d_Mo_prepare_59 rfl (lv_at hl 2 rfl) ?_
      refine lv_iconst (v := nI 4) hx hb d_Mo_prepare_60 (by decide +kernel) ?_
      refine lv_icmp_ge (tgt := 82) hx hb d_Mo_prepare_61 (by decide) (fun h => absurd h (show ¬ nI 4 ≤ nI t from fun h9 => absurd ((nI_leI (by omega) (by omega)).mp h9) (by omega))) (fun _ => ?_)
      refine lv_aload_n hx hb d_Mo_prepare_64 rfl (lv_at hl 0 rfl) ?_
      obtain ⟨hsd11, he10⟩ := zr_M0 hSh
      refine va_get (C := R_Mo) (T := T_Mo) (N := 19) (v := .ref (aw_m ad 15)) hx hb hG in_Mo hown hK hP 67 he10 rfl 17 (by decide) (hG _ gw_9_42) (fun _ h => h) rfl d_Mo_prepare_65 ?_
      clear he10
      refine lv_iload_n hx hb d_Mo_prepare_68 rfl (lv_at hl 2 rfl) ?_
      refine lv_aload_n hx hb d_Mo_prepare_69 rfl (lv_at hl 0 rfl) ?_
      refine lv_iload_n hx hb d_Mo_prepare_70 rfl (lv_at hl 1 rfl) ?_
      refine lv_iload_n hx hb d_Mo_prepare_71 rfl (lv_at hl 2 rfl) ?_
      obtain ⟨_, he12⟩ := zr_M0 hSh
      refine va_calli (va_runV (As := [.int (nI j), .int (nI t)]) (rest := [.int (nI t), .ref (aw_m ad 15)]) ⟨hx, hb, hml, hown, hG⟩ (k_Mo_quarterV l D g ad N0 zG zO zX zY zA zB zM ((v_Mo_prepare1V_L59 zI zL j t)) zL (nI 1) 4 zF zQ j (nI t) hj) (aw_wV 2 hG gw_11_14 gw_11_12 gw_0_10 gw_11_13 gw_p_14 rfl rfl hd_Mo_quarter ⟨Nat.le_of_ble_eq_true rfl, Nat.le_of_ble_eq_true rfl⟩) (ag_qV (va_recv hK hP rfl he12) hP hD hSh hU hS) rfl rfl hl.1 rfl (lv_room (Nat.le_of_ble_eq_true rfl)) d_Mo_prepare_72 ⟨Nat.le_of_ble_eq_true rfl, Nat.le_of_ble_eq_true rfl⟩) hS (fun _ _ h => h) (fun _ h => h) ?_
      clear hP hD hSh hS he12
      intro x13 u8 t8 H locs ht _ ex13 hB _ _ hS
      obtain ⟨L, hP, hD, hSh⟩ := hB
      rw [ht] at hP
      clear ht
      have ex13 := ex13.symm
      have he14 := zr_M15 hSh
      refine ag_ist hx hb hK hP hD hS 82 0 he14 rfl (k := t) (by omega) (by decide) d_Mo_prepare_75 (zw_I15w hSh t x13) ?_
      clear hP hD hSh hS he14
      intro H locs L hP hD hSh hS
      obtain ⟨zI15, ezI15⟩ : ∃ z : Nat → Nat → Int32, az_v ((v_Mo_prepare1V_L59 zI zL j t)) 15 t x13 = z := ⟨_, rfl⟩
      rw [ezI15] at hSh
      refine lv_iinc (k := 2) (v := nI (t + 1)) hx hb d_Mo_prepare_76 hl rfl (aw_inc t 1 1 (by decide +kernel)) (by decide) rfl (fun ls hl => ?_)
      have hl : lv_has ls 4 [(2, .int (nI (t + 1))), (0, .ref (aw_m ad 0)), (1, .int (nI j))] := hl
      refine lv_goto (tgt := 59) hx hb d_Mo_prepare_79 (by decide) ?_
      have hl := lv_sub hl (l' := [(0, .ref (aw_m ad 0)), (1, .int (nI j)), (2, .int (nI (t + 1)))]) [1, 2, 0] rfl
      have g0 : zI15 = (v_Mo_prepare1V_L59 zI zL j (t + 1)) := by subst ezI15 ex13; (rw [v_Mo_prepare1V_L59_s]) <;> rfl
      have hSh : az_Sh g ad zG zO zX zY zA zB zM ((v_Mo_prepare1V_L59 zI zL j (t + 1))) zL (nI 1) 4 zF zQ L := by rw [← g0]; exact hSh
      exact ih (t + 1) H locs L ls (by omega) hP hD hSh hS (by first | exact hl | simpa [Nat.add_assoc, Nat.mul_add, Nat.add_comm] using hl)
  have hl := lv_sub hl (l' := [(0, .ref (aw_m ad 0)), (1, .int (nI j)), (2, .int (nI 0))]) [1, 2, 0] rfl
  have g0 : zI = (v_Mo_prepare1V_L59 zI zL j 0) := by (rw [v_Mo_prepare1V_L59_z]) <;> rfl
  have hSh : az_Sh g ad zG zO zX zY zA zB zM ((v_Mo_prepare1V_L59 zI zL j 0)) zL (nI 1) 4 zF zQ L := by rw [← g0]; exact hSh
  exact L59 4 0 _ _ L ls (by omega) hP hD hSh hS (by first | exact hl | simpa using hl)
noncomputable def v_Mo_prepare2V_L141 (zI : Nat → Nat → Int32) (zL : Nat → Nat → Int64) (j : Nat) (t : Nat) : (Nat → Nat → Int32) := Nat.rec (motive := fun _ => (Nat → Nat → Int32)) (az_v (az_v (az_v (az_v zI 16 2 (v_Mo_quarterV zL j (nI 0))) 16 1 (v_Mo_quarterV zL j (nI 1))) 16 0 (v_Mo_quarterV zL j (nI 2))) 15 0 (v_Mo_quarterV zL j (nI 3))) (fun t s => az_v (az_v (s) 16 (t + 3) ((((s) 15 t) + (v_Mo_backV ((s) 16 t) (nI 8))) ^^^ (nI t))) 15 (t + 1) ((v_Mo_turnV ((az_v (s) 16 (t + 3) ((((s) 15 t) + (v_Mo_backV ((s) 16 t) (nI 8))) ^^^ (nI t))) 15 t) (nI 3)) ^^^ ((az_v (s) 16 (t + 3) ((((s) 15 t) + (v_Mo_backV ((s) 16 t) (nI 8))) ^^^ (nI t))) 16 (t + 3)))) t
theorem v_Mo_prepare2V_L141_z (zI : Nat → Nat → Int32) (zL : Nat → Nat → Int64) (j : Nat) : v_Mo_prepare2V_L141 zI zL j 0 = (az_v (az_v (az_v (az_v zI 16 2 (v_Mo_quarterV zL j (nI 0))) 16 1 (v_Mo_quarterV zL j (nI 1))) 16 0 (v_Mo_quarterV zL j (nI 2))) 15 0 (v_Mo_quarterV zL j (nI 3))) := rfl
theorem v_Mo_prepare2V_L141_s (zI : Nat → Nat → Int32) (zL : Nat → Nat → Int64) (j : Nat) (t : Nat) : v_Mo_prepare2V_L141 zI zL j (t + 1) = az_v (az_v ((v_Mo_prepare2V_L141 zI zL j t)) 16 (t + 3) (((((v_Mo_prepare2V_L141 zI zL j t)) 15 t) + (v_Mo_backV (((v_Mo_prepare2V_L141 zI zL j t)) 16 t) (nI 8))) ^^^ (nI t))) 15 (t + 1) ((v_Mo_turnV ((az_v ((v_Mo_prepare2V_L141 zI zL j t)) 16 (t + 3) (((((v_Mo_prepare2V_L141 zI zL j t)) 15 t) + (v_Mo_backV (((v_Mo_prepare2V_L141 zI zL j t)) 16 t) (nI 8))) ^^^ (nI t))) 15 t) (nI 3)) ^^^ ((az_v ((v_Mo_prepare2V_L141 zI zL j t)) 16 (t + 3) (((((v_Mo_prepare2V_L141 zI zL j t)) 15 t) + (v_Mo_backV (((v_Mo_prepare2V_L141 zI zL j t)) 16 t) (nI 8))) ^^^ (nI t))) 16 (t + 3))) := rfl
noncomputable def v_Mo_prepare2V_zI (zI : Nat → Nat → Int32) (zL : Nat → Nat → Int64) (j : Nat) : Nat → Nat → Int32 := (v_Mo_prepare2V_L141 zI zL j 26)
abbrev ws_Mo_prepare2V : List Cond := Cond.code y_Mo_prepare b_Mo_prepare 4 none :: aw_G
abbrev rm_Mo_prepare2V : Room := { frames := 3, cells := 0, slots := 0, locals := 71 }
set_option maxHeartbeats 4000000 in
set_option maxRecDepth 100000 in
theorem k_Mo_prepare2V (l : Launch) (D : va_G) (g : Nat → ClassId) (ad : Nat → Nat) (N0 : Nat) (zG : Nat → Nat × Nat) (zO : Nat → Nat) (zX : Nat → Nat → Int64) (zY : Nat → Nat → Int32) (zA : Nat → Nat → Nat → Int32) (zB : Nat → Int32) (zM : Nat → Nat × Nat) (zI : Nat → Nat → Int32) (zL : Nat → Nat → Int64) (zK : Int32) (zN : Nat) (zF : Int32) (zQ : Int64) (j : Nat) (hj : j < 4) (hci : zI 3 j = nI 2) : Met l y_Mo_prepare ws_Mo_prepare2V rm_Mo_prepare2V (va_Pc ([.ref (aw_m ad 0), .int (nI j)] : List Value) (ag_B D g N0 (az_Sh g ad zG zO zX zY zA zB zM zI zL zK zN zF zQ))) (va_Qv (fun (_ : Unit) => True) (fun (_ : Unit) t => ag_H D N0 (az_Sh g ad zG zO zX zY zA zB zM (v_Mo_prepare2V_zI zI zL j) zL (nI 2) 27 zF zQ) t.heap) (aw_Z N0)) 0 0 (aw_Z N0) := by
  refine Met.ofW (cc := b_Mo_prepare) (maxL := 4) (ret := none) (by decide) rfl ?_
  intro p e s m args below meth c s₁ B hml hv
  obtain ⟨rfl, ⟨L, hP, hD, hSh⟩, hU⟩ := hv
  have hx := B.exec
  have hb := B.bytes
  have hr := B.returns
  have hG : ∀ w ∈ aw_G, w.before _ s = true := fun w h => atoms_spec (ws := ws_Mo_prepare2V) B.pre w (List.mem_cons_of_mem _ h)
  have hown : s.vm.findClass "RuleCiphersModel" = some m.cls := findClass_of_methodNamed B.named
  have hlocks := B.notSynchronized
  have hE := hU.1
  have hK := hE.1
  have hN := hE.2.1
  have hS : va_S (aw_Z N0) s.heap s.heap [] := va_S.rf
  have hl := lv_entry ([.ref (aw_m ad 0), .int (nI j)] : List Value) (n := 4) (Nat.le_of_ble_eq_true rfl)
  rw [lg_entry_eq]
  generalize (lg_sl ([.ref (aw_m ad 0), .int (nI j)] : List Value) ++ List.replicate (4 - (lg_sl ([.ref (aw_m ad 0), .int (nI j)] : List Value)).length) Slot.unset).toArray = ls at hl ⊢
  have hl : lv_has ls 4 [(0, .ref (aw_m ad 0)), (1, .int (nI j))] := hl
  refine lv_aload_n hx hb d_Mo_prepare_0 rfl (lv_at hl 0 rfl) ?_
  refine lv_aload_n hx hb d_Mo_prepare_1 rfl (lv_at hl 0 rfl) ?_
  obtain ⟨hsd2, he1⟩ := zr_M0 hSh
  refine va_get (C := R_Mo) (T := T_Mo) (N := 19) (v := .ref (aw_m ad 3)) hx hb hG in_Mo hown hK hP 67 he1 rfl 3 (by decide) (hG _ gw_9_28) (fun _ h => h) rfl d_Mo_prepare_2 ?_
  clear he1
  refine lv_iload_n hx hb d_Mo_prepare_5 rfl (lv_at hl 1 rfl) ?_
  have he3 := zr_M3 hSh
  refine aw_ild hx hb hK hP 70 0 he3 rfl (k := j) (by omega) (by decide) d_Mo_prepare_6 ?_
  clear he3
  refine aw_ti (y := nI 2) hci ?_
  obtain ⟨hsd5, he4⟩ := zr_M0 hSh
  refine ag_put (v := .int (nI 2)) (ty := .int) (C := R_Mo) (T := T_Mo) (N := 19) hx hb hG in_Mo t_Mo t_Mo_ok n_Mo hown hK hP hD hS 67 he4 rfl 15 (by decide) (hG _ gw_9_40) (fun _ h => h) rfl (by decide +kernel) rfl rfl (Nat.le_of_ble_eq_true rfl) d_Mo_prepare_7 (zw_K hSh (nI 2)) ?_
  clear hP hD hSh hS he4
  intro H locs L hP hD hSh hS
  refine lv_aload_n hx hb d_Mo_prepare_10 rfl (lv_at hl 0 rfl) ?_
  obtain ⟨hsd7, he6⟩ := zr_M0 hSh
  refine va_get (C := R_Mo) (T := T_Mo) (N := 19) (v := .int (nI 2)) hx hb hG in_Mo hown hK hP 67 he6 rfl 15 (by decide) (hG _ gw_9_40) (fun _ h => h) rfl d_Mo_prepare_11 ?_
  clear he6
  refine lv_tableIn (tgt := 85) (off := 71) hx hb d_Mo_prepare_14 (by decide +kernel) (by decide +kernel) (by decide +kernel) (by decide) ?_
  refine lv_aload_n hx hb d_Mo_prepare_85 rfl (lv_at hl 0 rfl) ?_
  refine lv_bipush (v := nI 27) hx hb d_Mo_prepare_86 (by decide +kernel) ?_
  obtain ⟨hsd9, he8⟩ := zr_M0 hSh
  refine ag_put (v := .int (nI 27)) (ty := .int) (C := R_Mo) (T := T_Mo) (N := 19) hx hb hG in_Mo t_Mo t_Mo_ok n_Mo hown hK hP hD hS 67 he8 rfl 16 (by decide) (hG _ gw_9_41) (fun _ h => h) rfl (by decide +kernel) rfl rfl (Nat.le_of_ble_eq_true rfl) d_Mo_prepare_88 (zw_N hSh 27 (by omega)) ?_
  clear hP hD hSh hS he8
  intro H locs L hP hD hSh hS
  refine lv_aload_n hx hb d_Mo_prepare_91 rfl (lv_at hl 0 rfl) ?_
  obtain ⟨hsd11, he10⟩ := zr_M0 hSh
  refine va_get (C := R_Mo) (T := T_Mo) (N := 19) (v := .ref (aw_m ad 16)) hx hb hG in_Mo hown hK hP 67 he10 rfl 18 (by decide) (hG _ gw_9_43) (fun _ h => h) rfl d_Mo_prepare_92 ?_
  clear he10
  refine lv_iconst (v := nI 2) hx hb d_Mo_prepare_95 (by decide +kernel) ?_
  refine lv_aload_n hx hb d_Mo_prepare_96 rfl (lv_at hl 0 rfl) ?_
  refine lv_iload_n hx hb d_Mo_prepare_97 rfl (lv_at hl 1 rfl) ?_
  refine lv_iconst (v := nI 0) hx hb d_Mo_prepare_98 (by decide +kernel) ?_
  obtain ⟨_, he12⟩ := zr_M0 hSh
  refine va_calli (va_runV (As := [.int (nI j), .int (nI 0)]) (rest := [.int (nI 2), .ref (aw_m ad 16)]) ⟨hx, hb, hml, hown, hG⟩ (k_Mo_quarterV l D g ad N0 zG zO zX zY zA zB zM zI zL (nI 2) 27 zF zQ j (nI 0) hj) (aw_wV 2 hG gw_11_14 gw_11_12 gw_0_10 gw_11_13 gw_p_14 rfl rfl hd_Mo_quarter ⟨Nat.le_of_ble_eq_true rfl, Nat.le_of_ble_eq_true rfl⟩) (ag_qV (va_recv hK hP rfl he12) hP hD hSh hU hS) rfl rfl hl.1 rfl (lv_room (Nat.le_of_ble_eq_true rfl)) d_Mo_prepare_99 ⟨Nat.le_of_ble_eq_true rfl, Nat.le_of_ble_eq_true rfl⟩) hS (fun _ _ h => h) (fun _ h => h) ?_
  clear hP hD hSh hS he12
  intro x13 u8 t8 H locs ht _ ex13 hB _ _ hS
  obtain ⟨L, hP, hD, hSh⟩ := hB
  rw [ht] at hP
  clear ht
  have ex13 := ex13.symm
  have he14 := zr_M16 hSh
  refine ag_ist hx hb hK hP hD hS 83 0 he14 rfl (k := 2) (by omega) (by decide) d_Mo_prepare_102 (zw_I16w hSh 2 x13) ?_
  clear hP hD hSh hS he14
  intro H locs L hP hD hSh hS
  obtain ⟨zI15, ezI15⟩ : ∃ z : Nat → Nat → Int32, az_v zI 16 2 x13 = z := ⟨_, rfl⟩
  rw [ezI15] at hSh
  refine lv_aload_n hx hb d_Mo_prepare_103 rfl (lv_at hl 0 rfl) ?_
  obtain ⟨hsd17, he16⟩ := zr_M0 hSh
  refine va_get (C := R_Mo) (T := T_Mo) (N := 19) (v := .ref (aw_m ad 16)) hx hb hG in_Mo hown hK hP 67 he16 rfl 18 (by decide) (hG _ gw_9_43) (fun _ h => h) rfl d_Mo_prepare_104 ?_
  clear he16
  refine lv_iconst (v := nI 1) hx hb d_Mo_prepare_107 (by decide +kernel) ?_
  refine lv_aload_n hx hb d_Mo_prepare_108 rfl (lv_at hl 0 rfl) ?_
  refine lv_iload_n hx hb d_Mo_prepare_109 rfl (lv_at hl 1 rfl) ?_
  refine lv_iconst (v := nI 1) hx hb d_Mo_prepare_110 (by decide +kernel) ?_
  obtain ⟨_, he18⟩ := zr_M0 hSh
  refine va_calli (va_runV (As := [.int (nI j), .int (nI 1)]) (rest := [.int (nI 1), .ref (aw_m ad 16)]) ⟨hx, hb, hml, hown, hG⟩ (k_Mo_quarterV l D g ad N0 zG zO zX zY zA zB zM zI15 zL (nI 2) 27 zF zQ j (nI 1) hj) (aw_wV 2 hG gw_11_14 gw_11_12 gw_0_10 gw_11_13 gw_p_14 rfl rfl hd_Mo_quarter ⟨Nat.le_of_ble_eq_true rfl, Nat.le_of_ble_eq_true rfl⟩) (ag_qV (va_recv hK hP rfl he18) hP hD hSh hU hS) rfl rfl hl.1 rfl (lv_room (Nat.le_of_ble_eq_true rfl)) d_Mo_prepare_111 ⟨Nat.le_of_ble_eq_true rfl, Nat.le_of_ble_eq_true rfl⟩) hS (fun _ _ h => h) (fun _ h => h) ?_
  clear hP hD hSh hS he18
  intro x19 u8 t8 H locs ht _ ex19 hB _ _ hS
  obtain ⟨L, hP, hD, hSh⟩ := hB
  rw [ht] at hP
  clear ht
  have ex19 := ex19.symm
  have he20 := zr_M16 hSh
  refine ag_ist hx hb hK hP hD hS 83 0 he20 rfl (k := 1) (by omega) (by decide) d_Mo_prepare_114 (zw_I16w hSh 1 x19) ?_
  clear hP hD hSh hS he20
  intro H locs L hP hD hSh hS
  obtain ⟨zI21, ezI21⟩ : ∃ z : Nat → Nat → Int32, az_v zI15 16 1 x19 = z := ⟨_, rfl⟩
  rw [ezI21] at hSh
  refine lv_aload_n hx hb d_Mo_prepare_115 rfl (lv_at hl 0 rfl) ?_
  obtain ⟨hsd23, he22⟩ := zr_M0 hSh
  refine va_get (C := R_Mo) (T := T_Mo) (N := 19) (v := .ref (aw_m ad 16)) hx hb hG in_Mo hown hK hP 67 he22 rfl 18 (by decide) (hG _ gw_9_43) (fun _ h => h) rfl d_Mo_prepare_116 ?_
  clear he22
  refine lv_iconst (v := nI 0) hx hb d_Mo_prepare_119 (by decide +kernel) ?_
  refine lv_aload_n hx hb d_Mo_prepare_120 rfl (lv_at hl 0 rfl) ?_
  refine lv_iload_n hx hb d_Mo_prepare_121 rfl (lv_at hl 1 rfl) ?_
  refine lv_iconst (v := nI 2) hx hb d_Mo_prepare_122 (by decide +kernel) ?_
  obtain ⟨_, he24⟩ := zr_M0 hSh
  refine va_calli (va_runV (As := [.int (nI j), .int (nI 2)]) (rest := [.int (nI 0), .ref (aw_m ad 16)]) ⟨hx, hb, hml, hown, hG⟩ (k_Mo_quarterV l D g ad N0 zG zO zX zY zA zB zM zI21 zL (nI 2) 27 zF zQ j (nI 2) hj) (aw_wV 2 hG gw_11_14 gw_11_12 gw_0_10 gw_11_13 gw_p_14 rfl rfl hd_Mo_quarter ⟨Nat.le_of_ble_eq_true rfl, Nat.le_of_ble_eq_true rfl⟩) (ag_qV (va_recv hK hP rfl he24) hP hD hSh hU hS) rfl rfl hl.1 rfl (lv_room (Nat.le_of_ble_eq_true rfl)) d_Mo_prepare_123 ⟨Nat.le_of_ble_eq_true rfl, Nat.le_of_ble_eq_true rfl⟩) hS (fun _ _ h => h) (fun _ h => h) ?_
  clear hP hD hSh hS he24
  intro x25 u8 t8 H locs ht _ ex25 hB _ _ hS
  obtain ⟨L, hP, hD, hSh⟩ := hB
  rw [ht] at hP
  clear ht
  have ex25 := ex25.symm
  have he26 := zr_M16 hSh
  refine ag_ist hx hb hK hP hD hS 83 0 he26 rfl (k := 0) (by omega) (by decide) d_Mo_prepare_126 (zw_I16w hSh 0 x25) ?_
  clear hP hD hSh hS he26
  intro H locs L hP hD hSh hS
  obtain ⟨zI27, ezI27⟩ : ∃ z : Nat → Nat → Int32, az_v zI21 16 0 x25 = z := ⟨_, rfl⟩
  rw [ezI27] at hSh
  refine lv_aload_n hx hb d_Mo_prepare_127 rfl (lv_at hl 0 rfl) ?_
  obtain ⟨hsd29, he28⟩ := zr_M0 hSh
  refine va_get (C := R_Mo) (T := T_Mo) (N := 19) (v := .ref (aw_m ad 15)) hx hb hG in_Mo hown hK hP 67 he28 rfl 17 (by decide) (hG _ gw_9_42) (fun _ h => h) rfl d_Mo_prepare_128 ?_
  clear he28
  refine lv_iconst (v := nI 0) hx hb d_Mo_prepare_131 (by decide +kernel) ?_
  refine lv_aload_n hx hb d_Mo_prepare_132 rfl (lv_at hl 0 rfl) ?_
  refine lv_iload_n hx hb d_Mo_prepare_133 rfl (lv_at hl 1 rfl) ?_
  refine lv_iconst (v := nI 3) hx hb d_Mo_prepare_134 (by decide +kernel) ?_
  obtain ⟨_, he30⟩ := zr_M0 hSh
  refine va_calli (va_runV (As := [.int (nI j), .int (nI 3)]) (rest := [.int (nI 0), .ref (aw_m ad 15)]) ⟨hx, hb, hml, hown, hG⟩ (k_Mo_quarterV l D g ad N0 zG zO zX zY zA zB zM zI27 zL (nI 2) 27 zF zQ j (nI 3) hj) (aw_wV 2 hG gw_11_14 gw_11_12 gw_0_10 gw_11_13 gw_p_14 rfl rfl hd_Mo_quarter ⟨Nat.le_of_ble_eq_true rfl, Nat.le_of_ble_eq_true rfl⟩) (ag_qV (va_recv hK hP rfl he30) hP hD hSh hU hS) rfl rfl hl.1 rfl (lv_room (Nat.le_of_ble_eq_true rfl)) d_Mo_prepare_135 ⟨Nat.le_of_ble_eq_true rfl, Nat.le_of_ble_eq_true rfl⟩) hS (fun _ _ h => h) (fun _ h => h) ?_
  clear hP hD hSh hS he30
  intro x31 u8 t8 H locs ht _ ex31 hB _ _ hS
  obtain ⟨L, hP, hD, hSh⟩ := hB
  rw [ht] at hP
  clear ht
  have ex31 := ex31.symm
  have he32 := zr_M15 hSh
  refine ag_ist hx hb hK hP hD hS 82 0 he32 rfl (k := 0) (by omega) (by decide) d_Mo_prepare_138 (zw_I15w hSh 0 x31) ?_
  clear hP hD hSh hS he32
  intro H locs L hP hD hSh hS
  obtain ⟨zI33, ezI33⟩ : ∃ z : Nat → Nat → Int32, az_v zI27 15 0 x31 = z := ⟨_, rfl⟩
  rw [ezI33] at hSh
  refine lv_iconst (v := nI 0) hx hb d_Mo_prepare_139 (by decide +kernel) ?_
  refine lv_istore_n hx hb d_Mo_prepare_140 rfl hl (by decide) rfl (fun ls hl => ?_)
  have hl : lv_has ls 4 [(2, .int (nI 0)), (0, .ref (aw_m ad 0)), (1, .int (nI j))] := hl
  have L141 : ∀ (d t : Nat) (H : Heap) (locs : List Loc) (L : va_W) (ls : Array Slot), t + d = 26 → va_P D aw_C L H → va_D (aw_Z N0) L → az_Sh g ad zG zO zX zY zA zB zM ((v_Mo_prepare2V_L141 zI zL j t)) zL (nI 2) 27 zF zQ L → va_S (aw_Z N0) s.heap H locs → lv_has ls 4 [(0, .ref (aw_m ad 0)), (1, .int (nI j)), (2, .int (nI t))] → W p l e (headSpec ws_Mo_prepare2V rm_Mo_prepare2V).room s m ([.ref (aw_m ad 0), .int (nI j)] : List Value).toArray below meth c H locs 0 0 (MQ below (va_Qv (fun (_ : Unit) => True) (fun (_ : Unit) t => ag_H D N0 (az_Sh g ad zG zO zX zY zA zB zM (v_Mo_prepare2V_zI zI zL j) zL (nI 2) 27 zF zQ) t.heap) (aw_Z N0)) ([.ref (aw_m ad 0), .int (nI j)] : List Value).toArray s 0 0 (aw_Z N0)) (F0 m 141 ls []) := by
    clear hl hP hD hSh hS
    intro d
    induction d with
    | zero =>
      intro t H locs L ls ht0 hP hD hSh hS hl
      have ht1 : t = 26 := by omega
      subst ht1
      refine lv_iload_n hx hb d_Mo_prepare_141 rfl (lv_at hl 2 rfl) ?_
      refine lv_bipush (v := nI 26) hx hb d_Mo_prepare_142 (by decide +kernel) ?_
      refine lv_icmp_ge (tgt := 208) hx hb d_Mo_prepare_144 (by decide) (fun _ => ?_) (fun h => absurd (show nI 26 ≤ nI 26 from (nI_leI (by omega) (by omega)).mpr (by omega)) h)
      refine lv_goto (tgt := 329) hx hb d_Mo_prepare_208 (by decide) ?_
      have gzI : (v_Mo_prepare2V_L141 zI zL j 26) = v_Mo_prepare2V_zI zI zL j := by subst ezI33 ex31 ezI27 ex25 ezI21 ex19 ezI15 ex13; rfl
      have hSh : az_Sh g ad zG zO zX zY zA zB zM (v_Mo_prepare2V_zI zI zL j) zL (nI 2) 27 zF zQ L := by rw [← gzI]; exact hSh
      exact W.vret hx hb hr (fun t ht hW => ⟨⟨(), rfl, trivial, ag_Hr ht hP hD hSh⟩, hS.F ht⟩) hS.2.2 d_Mo_prepare_329
    | succ d ih =>
      intro t H locs L ls ht0 hP hD hSh hS hl
      refine lv_iload_n hx hb d_Mo_prepare_141 rfl (lv_at hl 2 rfl) ?_
      refine lv_bipush (v := nI 26) hx hb d_Mo_prepare_142 (by decide +kernel) ?_
      refine lv_icmp_ge (tgt := 208) hx hb d_Mo_prepare_144 (by decide) (fun h => absurd h (show ¬ nI 26 ≤ nI t from fun h9 => absurd ((nI_leI (by omega) (by omega)).mp h9) (by omega))) (fun _ => ?_)
      refine lv_aload_n hx hb d_Mo_prepare_147 rfl (lv_at hl 0 rfl) ?_
      obtain ⟨hsd35, he34⟩ := zr_M0 hSh
      refine va_get (C := R_Mo) (T := T_Mo) (N := 19) (v := .ref (aw_m ad 16)) hx hb hG in_Mo hown hK hP 67 he34 rfl 18 (by decide) (hG _ gw_9_43) (fun _ h => h) rfl d_Mo_prepare_148 ?_
      clear he34
      refine lv_iload_n hx hb d_Mo_prepare_151 rfl (lv_at hl 2 rfl) ?_
      refine lv_iconst (v := nI 3) hx hb d_Mo_prepare_152 (by decide +kernel) ?_
      refine lv_iadd hx hb d_Mo_prepare_153 ?_
      refine aw_ti (nI_add t 3) ?_
      refine lv_aload_n hx hb d_Mo_prepare_154 rfl (lv_at hl 0 rfl) ?_
      obtain ⟨hsd37, he36⟩ := zr_M0 hSh
      refine va_get (C := R_Mo) (T := T_Mo) (N := 19) (v := .ref (aw_m ad 15)) hx hb hG in_Mo hown hK hP 67 he36 rfl 17 (by decide) (hG _ gw_9_42) (fun _ h => h) rfl d_Mo_prepare_155 ?_
      clear he36
      refine lv_iload_n hx hb d_Mo_prepare_158 rfl (lv_at hl 2 rfl) ?_
      have he38 := zr_M15 hSh
      refine aw_ild hx hb hK hP 82 0 he38 rfl (k := t) (by omega) (by decide) d_Mo_prepare_159 ?_
      clear he38
      refine ag_topi (fun x39 ex39 => ?_)
      refine lv_aload_n hx hb d_Mo_prepare_160 rfl (lv_at hl 0 rfl) ?_
      obtain ⟨hsd41, he40⟩ := zr_M0 hSh
      refine va_get (C := R_Mo) (T := T_Mo) (N := 19) (v := .ref (aw_m ad 16)) hx hb hG in_Mo hown hK hP 67 he40 rfl 18 (by decide) (hG _ gw_9_43) (fun _ h => h) rfl d_Mo_prepare_161 ?_
      clear he40
      refine lv_iload_n hx hb d_Mo_prepare_164 rfl (lv_at hl 2 rfl) ?_
      have he42 := zr_M16 hSh
      refine aw_ild hx hb hK hP 83 0 he42 rfl (k := t) (by omega) (by decide) d_Mo_prepare_165 ?_
      clear he42
      refine ag_topi (fun x43 ex43 => ?_)
      refine lv_bipush (v := nI 8) hx hb d_Mo_prepare_166 (by decide +kernel) ?_
      refine aw_ci ((va_runS (As := [.int x43, .int (nI 8)]) (rest := [.int x39, .int (nI (t + 3)), .ref (aw_m ad 16)]) ⟨hx, hb, hml, hown, hG⟩ (k_Mo_backV l x43 (nI 8)) (aw_wS 2 hG gw_11_27 gw_11_25 gw_0_10 gw_11_26 rfl rfl hd_Mo_back ⟨Nat.le_of_ble_eq_true rfl, Nat.le_of_ble_eq_true rfl⟩) aw_p0 rfl rfl hl.1 rfl (lv_room (Nat.le_of_ble_eq_true rfl)) d_Mo_prepare_168 ⟨Nat.le_of_ble_eq_true rfl, Nat.le_of_ble_eq_true rfl⟩).run) (fun x44 ex44 => ?_)
      have ex44 := ex44.symm
      refine lv_iadd hx hb d_Mo_prepare_171 ?_
      refine ag_topi (fun x45 ex45 => ?_)
      refine lv_iload_n hx hb d_Mo_prepare_172 rfl (lv_at hl 2 rfl) ?_
      refine lv_ixor hx hb d_Mo_prepare_173 ?_
      refine ag_topi (fun x46 ex46 => ?_)
      have he47 := zr_M16 hSh
      refine ag_ist hx hb hK hP hD hS 83 0 he47 rfl (k := (t + 3)) (by omega) (by decide) d_Mo_prepare_174 (zw_I16w hSh (t + 3) x46) ?_
      clear hP hD hSh hS he47
      intro H locs L hP hD hSh hS
      obtain ⟨zI48, ezI48⟩ : ∃ z : Nat → Nat → Int32, az_v ((v_Mo_prepare2V_L141 zI zL j t)) 16 (t + 3) x46 = z := ⟨_, rfl⟩
      rw [ezI48] at hSh
      refine lv_aload_n hx hb d_Mo_prepare_175 rfl (lv_at hl 0 rfl) ?_
      obtain ⟨hsd50, he49⟩ := zr_M0 hSh
      refine va_get (C := R_Mo) (T := T_Mo) (N := 19) (v := .ref (aw_m ad 15)) hx hb hG in_Mo hown hK hP 67 he49 rfl 17 (by decide) (hG _ gw_9_42) (fun _ h => h) rfl d_Mo_prepare_176 ?_
      clear he49
      refine lv_iload_n hx hb d_Mo_prepare_179 rfl (lv_at hl 2 rfl) ?_
      refine lv_iconst (v := nI 1) hx hb d_Mo_prepare_180 (by decide +kernel) ?_
      refine lv_iadd hx hb d_Mo_prepare_181 ?_
      refine aw_ti (nI_add t 1) ?_
      refine lv_aload_n hx hb d_Mo_prepare_182 rfl (lv_at hl 0 rfl) ?_
      obtain ⟨hsd52, he51⟩ := zr_M0 hSh
      refine va_get (C := R_Mo) (T := T_Mo) (N := 19) (v := .ref (aw_m ad 15)) hx hb hG in_Mo hown hK hP 67 he51 rfl 17 (by decide) (hG _ gw_9_42) (fun _ h => h) rfl d_Mo_prepare_183 ?_
      clear he51
      refine lv_iload_n hx hb d_Mo_prepare_186 rfl (lv_at hl 2 rfl) ?_
      have he53 := zr_M15 hSh
      refine aw_ild hx hb hK hP 82 0 he53 rfl (k := t) (by omega) (by decide) d_Mo_prepare_187 ?_
      clear he53
      refine ag_topi (fun x54 ex54 => ?_)
      refine lv_iconst (v := nI 3) hx hb d_Mo_prepare_188 (by decide +kernel) ?_
      refine aw_ci ((va_runS (As := [.int x54, .int (nI 3)]) (rest := [.int (nI (t + 1)), .ref (aw_m ad 15)]) ⟨hx, hb, hml, hown, hG⟩ (k_Mo_turnV l x54 (nI 3)) (aw_wS 2 hG gw_11_24 gw_11_22 gw_0_10 gw_11_23 rfl rfl hd_Mo_turn ⟨Nat.le_of_ble_eq_true rfl, Nat.le_of_ble_eq_true rfl⟩) aw_p0 rfl rfl hl.1 rfl (lv_room (Nat.le_of_ble_eq_true rfl)) d_Mo_prepare_189 ⟨Nat.le_of_ble_eq_true rfl, Nat.le_of_ble_eq_true rfl⟩).run) (fun x55 ex55 => ?_)
      have ex55 := ex55.symm
      refine lv_aload_n hx hb d_Mo_prepare_192 rfl (lv_at hl 0 rfl) ?_
      obtain ⟨hsd57, he56⟩ := zr_M0 hSh
      refine va_get (C := R_Mo) (T := T_Mo) (N := 19) (v := .ref (aw_m ad 16)) hx hb hG in_Mo hown hK hP 67 he56 rfl 18 (by decide) (hG _ gw_9_43) (fun _ h => h) rfl d_Mo_prepare_193 ?_
      clear he56
      refine lv_iload_n hx hb d_Mo_prepare_196 rfl (lv_at hl 2 rfl) ?_
      refine lv_iconst (v := nI 3) hx hb d_Mo_prepare_197 (by decide +kernel) ?_
      refine lv_iadd hx hb d_Mo_prepare_198 ?_
      refine aw_ti (nI_add t 3) ?_
      have he58 := zr_M16 hSh
      refine aw_ild hx hb hK hP 83 0 he58 rfl (k := (t + 3)) (by omega) (by decide) d_Mo_prepare_199 ?_
      clear he58
      refine ag_topi (fun x59 ex59 => ?_)
      refine lv_ixor hx hb d_Mo_prepare_200 ?_
      refine ag_topi (fun x60 ex60 => ?_)
      have he61 := zr_M15 hSh
      refine ag_ist hx hb hK hP hD hS 82 0 he61 rfl (k := (t + 1)) (by omega) (by decide) d_Mo_prepare_201 (zw_I15w hSh (t + 1) x60) ?_
      clear hP hD hSh hS he61
      intro H locs L hP hD hSh hS
      obtain ⟨zI62, ezI62⟩ : ∃ z : Nat → Nat → Int32, az_v zI48 15 (t + 1) x60 = z := ⟨_, rfl⟩
      rw [ezI62] at hSh
      refine lv_iinc (k := 2) (v := nI (t + 1)) hx hb d_Mo_prepare_202 hl rfl (aw_inc t 1 1 (by decide +kernel)) (by decide) rfl (fun ls hl => ?_)
      have hl : lv_has ls 4 [(2, .int (nI (t + 1))), (0, .ref (aw_m ad 0)), (1, .int (nI j))] := hl
      refine lv_goto (tgt := 141) hx hb d_Mo_prepare_205 (by decide) ?_
      have hl := lv_sub hl (l' := [(0, .ref (aw_m ad 0)), (1, .int (nI j)), (2, .int (nI (t + 1)))]) [1, 2, 0] rfl
      have g0 : zI62 = (v_Mo_prepare2V_L141 zI zL j (t + 1)) := by subst ezI62 ex60 ex59 ex55 ex54 ezI48 ex46 ex45 ex44 ex43 ex39 ezI33 ex31 ezI27 ex25 ezI21 ex19 ezI15 ex13; (rw [v_Mo_prepare2V_L141_s]) <;> rfl
      have hSh : az_Sh g ad zG zO zX zY zA zB zM ((v_Mo_prepare2V_L141 zI zL j (t + 1))) zL (nI 2) 27 zF zQ L := by rw [← g0]; exact hSh
      exact ih (t + 1) H locs L ls (by omega) hP hD hSh hS (by first | exact hl | simpa [Nat.add_assoc, Nat.mul_add, Nat.add_comm] using hl)
  have hl := lv_sub hl (l' := [(0, .ref (aw_m ad 0)), (1, .int (nI j)), (2, .int (nI 0))]) [1, 2, 0] rfl
  have g0 : zI33 = (v_Mo_prepare2V_L141 zI zL j 0) := by subst ezI33 ex31 ezI27 ex25 ezI21 ex19 ezI15 ex13; (rw [v_Mo_prepare2V_L141_z]) <;> rfl
  have hSh : az_Sh g ad zG zO zX zY zA zB zM ((v_Mo_prepare2V_L141 zI zL j 0)) zL (nI 2) 27 zF zQ L := by rw [← g0]; exact hSh
  exact L141 26 0 _ _ L ls (by omega) hP hD hSh hS (by first | exact hl | simpa using hl)
noncomputable def v_Mo_prepare3V_L219 (zI : Nat → Nat → Int32) (zL : Nat → Nat → Int64) (j : Nat) (t : Nat) : (Nat → Nat → Int32) := Nat.rec (motive := fun _ => (Nat → Nat → Int32)) (zI) (fun t s => az_v (s) 15 (3 - t) (v_Mo_quarterV zL j (nI t))) t
theorem v_Mo_prepare3V_L219_z (zI : Nat → Nat → Int32) (zL : Nat → Nat → Int64) (j : Nat) : v_Mo_prepare3V_L219 zI zL j 0 = (zI) := rfl
theorem v_Mo_prepare3V_L219_s (zI : Nat → Nat → Int32) (zL : Nat → Nat → Int64) (j : Nat) (t : Nat) : v_Mo_prepare3V_L219 zI zL j (t + 1) = az_v ((v_Mo_prepare3V_L219 zI zL j t)) 15 (3 - t) (v_Mo_quarterV zL j (nI t)) := rfl
noncomputable def v_Mo_prepare3V_L246 (zI : Nat → Nat → Int32) (zL : Nat → Nat → Int64) (j : Nat) (t : Nat) : (Nat → Nat → Int32) := Nat.rec (motive := fun _ => (Nat → Nat → Int32)) ((v_Mo_prepare3V_L219 zI zL j 4)) (fun t s => az_v (s) 15 (4 + t) ((((((s) 15 ((4 + t) - 4)) ^^^ (-1)) ^^^ (((v_Mo_backV ((s) 15 ((4 + t) - 1)) (nI 3)) ^^^ ((s) 15 ((4 + t) - 3))) ^^^ (v_Mo_backV ((v_Mo_backV ((s) 15 ((4 + t) - 1)) (nI 3)) ^^^ ((s) 15 ((4 + t) - 3))) (nI 1)))) ^^^ (v_Mo_bitV (nI ((4 + t) - 4)))) ^^^ (nI 3))) t
theorem v_Mo_prepare3V_L246_z (zI : Nat → Nat → Int32) (zL : Nat → Nat → Int64) (j : Nat) : v_Mo_prepare3V_L246 zI zL j 0 = ((v_Mo_prepare3V_L219 zI zL j 4)) := rfl
theorem v_Mo_prepare3V_L246_s (zI : Nat → Nat → Int32) (zL : Nat → Nat → Int64) (j : Nat) (t : Nat) : v_Mo_prepare3V_L246 zI zL j (t + 1) = az_v ((v_Mo_prepare3V_L246 zI zL j t)) 15 (4 + t) (((((((v_Mo_prepare3V_L246 zI zL j t)) 15 ((4 + t) - 4)) ^^^ (-1)) ^^^ (((v_Mo_backV (((v_Mo_prepare3V_L246 zI zL j t)) 15 ((4 + t) - 1)) (nI 3)) ^^^ (((v_Mo_prepare3V_L246 zI zL j t)) 15 ((4 + t) - 3))) ^^^ (v_Mo_backV ((v_Mo_backV (((v_Mo_prepare3V_L246 zI zL j t)) 15 ((4 + t) - 1)) (nI 3)) ^^^ (((v_Mo_prepare3V_L246 zI zL j t)) 15 ((4 + t) - 3))) (nI 1)))) ^^^ (v_Mo_bitV (nI ((4 + t) - 4)))) ^^^ (nI 3)) := rfl
noncomputable def v_Mo_prepare3V_zI (zI : Nat → Nat → Int32) (zL : Nat → Nat → Int64) (j : Nat) : Nat → Nat → Int32 := (v_Mo_prepare3V_L246 zI zL j 40)
abbrev ws_Mo_prepare3V : List Cond := Cond.code y_Mo_prepare b_Mo_prepare 4 none :: aw_G
abbrev rm_Mo_prepare3V : Room := { frames := 3, cells := 0, slots := 0, locals := 71 }
set_option maxHeartbeats 4000000 in
set_option maxRecDepth 100000 in
theorem k_Mo_prepare3V (l : Launch) (D : va_G) (g : Nat → ClassId) (ad : Nat → Nat) (N0 : Nat) (zG : Nat → Nat × Nat) (zO : Nat → Nat) (zX : Nat → Nat → Int64) (zY : Nat → Nat → Int32) (zA : Nat → Nat → Nat → Int32) (zB : Nat → Int32) (zM : Nat → Nat × Nat) (zI : Nat → Nat → Int32) (zL : Nat → Nat → Int64) (zK : Int32) (zN : Nat) (zF : Int32) (zQ : Int64) (j : Nat) (hj : j < 4) (hci : zI 3 j = nI 3) : Met l y_Mo_prepare ws_Mo_prepare3V rm_Mo_prepare3V (va_Pc ([.ref (aw_m ad 0), .int (nI j)] : List Value) (ag_B D g N0 (az_Sh g ad zG zO zX zY zA zB zM zI zL zK zN zF zQ))) (va_Qv (fun (_ : Unit) => True) (fun (_ : Unit) t => ag_H D N0 (az_Sh g ad zG zO zX zY zA zB zM (v_Mo_prepare3V_zI zI zL j) zL (nI 3) 44 zF zQ) t.heap) (aw_Z N0)) 0 0 (aw_Z N0) := by
  refine Met.ofW (cc := b_Mo_prepare) (maxL := 4) (ret := none) (by decide) rfl ?_
  intro p e s m args below meth c s₁ B hml hv
  obtain ⟨rfl, ⟨L, hP, hD, hSh⟩, hU⟩ := hv
  have hx := B.exec
  have hb := B.bytes
  have hr := B.returns
  have hG : ∀ w ∈ aw_G, w.before _ s = true := fun w h => atoms_spec (ws := ws_Mo_prepare3V) B.pre w (List.mem_cons_of_mem _ h)
  have hown : s.vm.findClass "RuleCiphersModel" = some m.cls := findClass_of_methodNamed B.named
  have hlocks := B.notSynchronized
  have hE := hU.1
  have hK := hE.1
  have hN := hE.2.1
  have hS : va_S (aw_Z N0) s.heap s.heap [] := va_S.rf
  have hl := lv_entry ([.ref (aw_m ad 0), .int (nI j)] : List Value) (n := 4) (Nat.le_of_ble_eq_true rfl)
  rw [lg_entry_eq]
  generalize (lg_sl ([.ref (aw_m ad 0), .int (nI j)] : List Value) ++ List.replicate (4 - (lg_sl ([.ref (aw_m ad 0), .int (nI j)] : List Value)).length) Slot.unset).toArray = ls at hl ⊢
  have hl : lv_has ls 4 [(0, .ref (aw_m ad 0)), (1, .int (nI j))] := hl
  refine lv_aload_n hx hb d_Mo_prepare_0 rfl (lv_at hl 0 rfl) ?_
  refine lv_aload_n hx hb d_Mo_prepare_1 rfl (lv_at hl 0 rfl) ?_
  obtain ⟨hsd2, he1⟩ := zr_M0 hSh
  refine va_get (C := R_Mo) (T := T_Mo) (N := 19) (v := .ref (aw_m ad 3)) hx hb hG in_Mo hown hK hP 67 he1 rfl 3 (by decide) (hG _ gw_9_28) (fun _ h => h) rfl d_Mo_prepare_2 ?_
  clear he1
  refine lv_iload_n hx hb d_Mo_prepare_5 rfl (lv_at hl 1 rfl) ?_
  have he3 := zr_M3 hSh
  refine aw_ild hx hb hK hP 70 0 he3 rfl (k := j) (by omega) (by decide) d_Mo_prepare_6 ?_
  clear he3
  refine aw_ti (y := nI 3) hci ?_
  obtain ⟨hsd5, he4⟩ := zr_M0 hSh
  refine ag_put (v := .int (nI 3)) (ty := .int) (C := R_Mo) (T := T_Mo) (N := 19) hx hb hG in_Mo t_Mo t_Mo_ok n_Mo hown hK hP hD hS 67 he4 rfl 15 (by decide) (hG _ gw_9_40) (fun _ h => h) rfl (by decide +kernel) rfl rfl (Nat.le_of_ble_eq_true rfl) d_Mo_prepare_7 (zw_K hSh (nI 3)) ?_
  clear hP hD hSh hS he4
  intro H locs L hP hD hSh hS
  refine lv_aload_n hx hb d_Mo_prepare_10 rfl (lv_at hl 0 rfl) ?_
  obtain ⟨hsd7, he6⟩ := zr_M0 hSh
  refine va_get (C := R_Mo) (T := T_Mo) (N := 19) (v := .int (nI 3)) hx hb hG in_Mo hown hK hP 67 he6 rfl 15 (by decide) (hG _ gw_9_40) (fun _ h => h) rfl d_Mo_prepare_11 ?_
  clear he6
  refine lv_tableIn (tgt := 211) (off := 197) hx hb d_Mo_prepare_14 (by decide +kernel) (by decide +kernel) (by decide +kernel) (by decide) ?_
  refine lv_aload_n hx hb d_Mo_prepare_211 rfl (lv_at hl 0 rfl) ?_
  refine lv_bipush (v := nI 44) hx hb d_Mo_prepare_212 (by decide +kernel) ?_
  obtain ⟨hsd9, he8⟩ := zr_M0 hSh
  refine ag_put (v := .int (nI 44)) (ty := .int) (C := R_Mo) (T := T_Mo) (N := 19) hx hb hG in_Mo t_Mo t_Mo_ok n_Mo hown hK hP hD hS 67 he8 rfl 16 (by decide) (hG _ gw_9_41) (fun _ h => h) rfl (by decide +kernel) rfl rfl (Nat.le_of_ble_eq_true rfl) d_Mo_prepare_214 (zw_N hSh 44 (by omega)) ?_
  clear hP hD hSh hS he8
  intro H locs L hP hD hSh hS
  refine lv_iconst (v := nI 0) hx hb d_Mo_prepare_217 (by decide +kernel) ?_
  refine lv_istore_n hx hb d_Mo_prepare_218 rfl hl (by decide) rfl (fun ls hl => ?_)
  have hl : lv_has ls 4 [(2, .int (nI 0)), (0, .ref (aw_m ad 0)), (1, .int (nI j))] := hl
  have L219 : ∀ (d t : Nat) (H : Heap) (locs : List Loc) (L : va_W) (ls : Array Slot), t + d = 4 → va_P D aw_C L H → va_D (aw_Z N0) L → az_Sh g ad zG zO zX zY zA zB zM ((v_Mo_prepare3V_L219 zI zL j t)) zL (nI 3) 44 zF zQ L → va_S (aw_Z N0) s.heap H locs → lv_has ls 4 [(0, .ref (aw_m ad 0)), (1, .int (nI j)), (2, .int (nI t))] → W p l e (headSpec ws_Mo_prepare3V rm_Mo_prepare3V).room s m ([.ref (aw_m ad 0), .int (nI j)] : List Value).toArray below meth c H locs 0 0 (MQ below (va_Qv (fun (_ : Unit) => True) (fun (_ : Unit) t => ag_H D N0 (az_Sh g ad zG zO zX zY zA zB zM (v_Mo_prepare3V_zI zI zL j) zL (nI 3) 44 zF zQ) t.heap) (aw_Z N0)) ([.ref (aw_m ad 0), .int (nI j)] : List Value).toArray s 0 0 (aw_Z N0)) (F0 m 219 ls []) := by
    clear hl hP hD hSh hS
    intro d
    induction d with
    | zero =>
      intro t H locs L ls ht0 hP hD hSh hS hl
      have ht1 : t = 4 := by omega
      subst ht1
      refine lv_iload_n hx hb d_Mo_prepare_219 rfl (lv_at hl 2 rfl) ?_
      refine lv_iconst (v := nI 4) hx hb d_Mo_prepare_220 (by decide +kernel) ?_
      refine lv_icmp_ge (tgt := 244) hx hb d_Mo_prepare_221 (by decide) (fun _ => ?_) (fun h => absurd (show nI 4 ≤ nI 4 from (nI_leI (by omega) (by omega)).mpr (by omega)) h)
      refine lv_iconst (v := nI 4) hx hb d_Mo_prepare_244 (by decide +kernel) ?_
      refine lv_istore_n hx hb d_Mo_prepare_245 rfl hl (by decide) rfl (fun ls hl => ?_)
      have hl : lv_has ls 4 [(2, .int (nI 4)), (0, .ref (aw_m ad 0)), (1, .int (nI j))] := hl
      have L246 : ∀ (d t : Nat) (H : Heap) (locs : List Loc) (L : va_W) (ls : Array Slot), t + d = 40 → va_P D aw_C L H → va_D (aw_Z N0) L → az_Sh g ad zG zO zX zY zA zB zM ((v_Mo_prepare3V_L246 zI zL j t)) zL (nI 3) 44 zF zQ L → va_S (aw_Z N0) s.heap H locs → lv_has ls 4 [(0, .ref (aw_m ad 0)), (1, .int (nI j)), (2, .int (nI (4 + t)))] → W p l e (headSpec ws_Mo_prepare3V rm_Mo_prepare3V).room s m ([.ref (aw_m ad 0), .int (nI j)] : List Value).toArray below meth c H locs 0 0 (MQ below (va_Qv (fun (_ : Unit) => True) (fun (_ : Unit) t => ag_H D N0 (az_Sh g ad zG zO zX zY zA zB zM (v_Mo_prepare3V_zI zI zL j) zL (nI 3) 44 zF zQ) t.heap) (aw_Z N0)) ([.ref (aw_m ad 0), .int (nI j)] : List Value).toArray s 0 0 (aw_Z N0)) (F0 m 246 ls []) := by
        clear hl hP hD hSh hS
        intro d
        induction d with
        | zero =>
          intro t H locs L ls ht0 hP hD hSh hS hl
          have ht1 : t = 40 := by omega
          subst ht1
          refine lv_iload_n hx hb d_Mo_prepare_246 rfl (lv_at hl 2 rfl) ?_
          refine lv_bipush (v := nI 44) hx hb d_Mo_prepare_247 (by decide +kernel) ?_
          refine lv_icmp_ge (tgt := 315) hx hb d_Mo_prepare_249 (by decide) (fun _ => ?_) (fun h => absurd (show nI 44 ≤ nI (4 + 40) from (nI_leI (by omega) (by omega)).mpr (by omega)) h)
          refine lv_goto (tgt := 329) hx hb d_Mo_prepare_315 (by decide) ?_
          have gzI : (v_Mo_prepare3V_L246 zI zL j 40) = v_Mo_prepare3V_zI zI zL j := by rfl
          have hSh : az_Sh g ad zG zO zX zY zA zB zM (v_Mo_prepare3V_zI zI zL j) zL (nI 3) 44 zF zQ L := by rw [← gzI]; exact hSh
          exact W.vret hx hb hr (fun t ht hW => ⟨⟨(), rfl, trivial, ag_Hr ht hP hD hSh⟩, hS.F ht⟩) hS.2.2 d_Mo_prepare_329
        | succ d ih =>
          intro t H locs L ls ht0 hP hD hSh hS hl
          refine lv_iload_n hx hb d_Mo_prepare_246 rfl (lv_at hl 2 rfl) ?_
          refine lv_bipush (v := nI 44) hx hb d_Mo_prepare_247 (by decide +kernel) ?_
          refine lv_icmp_ge (tgt := 315) hx hb d_Mo_prepare_249 (by decide) (fun h => absurd h (show ¬ nI 44 ≤ nI (4 + t) from fun h9 => absurd ((nI_leI (by omega) (by omega)).mp h9) (by omega))) (fun _ => ?_)
          refine lv_aload_n hx hb d_Mo_prepare_252 rfl (lv_at hl 0 rfl) ?_
          obtain ⟨hsd11, he10⟩ := zr_M0 hSh
          refine va_get (C := R_Mo) (T := T_Mo) (N := 19) (v := .ref (aw_m ad 15)) hx hb hG in_Mo hown hK hP 67 he10 rfl 17 (by decide) (hG _ gw_9_42) (fun _ h => h) rfl d_Mo_prepare_253 ?_
          clear he10
          refine lv_iload_n hx hb d_Mo_prepare_256 rfl (lv_at hl 2 rfl) ?_
          refine lv_iconst (v := nI 1) hx hb d_Mo_prepare_257 (by decide +kernel) ?_
          refine lv_isub hx hb d_Mo_prepare_258 ?_
          refine aw_ti (pk_sub (a := (4 + t)) (b := 1) (by omega)) ?_
          have he12 := zr_M15 hSh
          refine aw_ild hx hb hK hP 82 0 he12 rfl (k := ((4 + t) - 1)) (by omega) (by decide) d_Mo_prepare_259 ?_
          clear he12
          refine ag_topi (fun x13 ex13 => ?_)
          refine lv_iconst (v := nI 3) hx hb d_Mo_prepare_260 (by decide +kernel) ?_
          refine aw_ci ((va_runS (As := [.int x13, .int (nI 3)]) (rest := []) ⟨hx, hb, hml, hown, hG⟩ (k_Mo_backV l x13 (nI 3)) (aw_wS 2 hG gw_11_27 gw_11_25 gw_0_10 gw_11_26 rfl rfl hd_Mo_back ⟨Nat.le_of_ble_eq_true rfl, Nat.le_of_ble_eq_true rfl⟩) aw_p0 rfl rfl hl.1 rfl (lv_room (Nat.le_of_ble_eq_true rfl)) d_Mo_prepare_261 ⟨Nat.le_of_ble_eq_true rfl, Nat.le_of_ble_eq_true rfl⟩).run) (fun x14 ex14 => ?_)
          have ex14 := ex14.symm
          refine lv_aload_n hx hb d_Mo_prepare_264 rfl (lv_at hl 0 rfl) ?_
          obtain ⟨hsd16, he15⟩ := zr_M0 hSh
          refine va_get (C := R_Mo) (T := T_Mo) (N := 19) (v := .ref (aw_m ad 15)) hx hb hG in_Mo hown hK hP 67 he15 rfl 17 (by decide) (hG _ gw_9_42) (fun _ h => h) rfl d_Mo_prepare_265 ?_
          clear he15
          refine lv_iload_n hx hb d_Mo_prepare_268 rfl (lv_at hl 2 rfl) ?_
          refine lv_iconst (v := nI 3) hx hb d_Mo_prepare_269 (by decide +kernel) ?_
          refine lv_isub hx hb d_Mo_prepare_270 ?_
          refine aw_ti (pk_sub (a := (4 + t)) (b := 3) (by omega)) ?_
          have he17 := zr_M15 hSh
          refine aw_ild hx hb hK hP 82 0 he17 rfl (k := ((4 + t) - 3)) (by omega) (by decide) d_Mo_prepare_271 ?_
          clear he17
          refine ag_topi (fun x18 ex18 => ?_)
          refine lv_ixor hx hb d_Mo_prepare_272 ?_
          refine ag_topi (fun x19 ex19 => ?_)
          refine lv_istore_n hx hb d_Mo_prepare_273 rfl hl (by decide) rfl (fun ls hl => ?_)
          have hl : lv_has ls 4 [(3, .int x19), (0, .ref (aw_m ad 0)), (1, .int (nI j)), (2, .int (nI (4 + t)))] := hl
          refine lv_iload_n hx hb d_Mo_prepare_274 rfl (lv_at hl 0 rfl) ?_
          refine lv_iload_n hx hb d_Mo_prepare_275 rfl (lv_at hl 0 rfl) ?_
          refine lv_iconst (v := nI 1) hx hb d_Mo_prepare_276 (by decide +kernel) ?_
          refine aw_ci ((va_runS (As := [.int x19, .int (nI 1)]) (rest := [.int x19]) ⟨hx, hb, hml, hown, hG⟩ (k_Mo_backV l x19 (nI 1)) (aw_wS 2 hG gw_11_27 gw_11_25 gw_0_10 gw_11_26 rfl rfl hd_Mo_back ⟨Nat.le_of_ble_eq_true rfl, Nat.le_of_ble_eq_true rfl⟩) aw_p0 rfl rfl hl.1 rfl (lv_room (Nat.le_of_ble_eq_true rfl)) d_Mo_prepare_277 ⟨Nat.le_of_ble_eq_true rfl, Nat.le_of_ble_eq_true rfl⟩).run) (fun x20 ex20 => ?_)
          have ex20 := ex20.symm
          refine lv_ixor hx hb d_Mo_prepare_280 ?_
          refine ag_topi (fun x21 ex21 => ?_)
          refine lv_istore_n hx hb d_Mo_prepare_281 rfl hl (by decide) rfl (fun ls hl => ?_)
          have hl : lv_has ls 4 [(3, .int x21), (0, .ref (aw_m ad 0)), (1, .int (nI j)), (2, .int (nI (4 + t)))] := hl
          refine lv_aload_n hx hb d_Mo_prepare_282 rfl (lv_at hl 1 rfl) ?_
          obtain ⟨hsd23, he22⟩ := zr_M0 hSh
          refine va_get (C := R_Mo) (T := T_Mo) (N := 19) (v := .ref (aw_m ad 15)) hx hb hG in_Mo hown hK hP 67 he22 rfl 17 (by decide) (hG _ gw_9_42) (fun _ h => h) rfl d_Mo_prepare_283 ?_
          clear he22
          refine lv_iload_n hx hb d_Mo_prepare_286 rfl (lv_at hl 3 rfl) ?_
          refine lv_aload_n hx hb d_Mo_prepare_287 rfl (lv_at hl 1 rfl) ?_
          obtain ⟨hsd25, he24⟩ := zr_M0 hSh
          refine va_get (C := R_Mo) (T := T_Mo) (N := 19) (v := .ref (aw_m ad 15)) hx hb hG in_Mo hown hK hP 67 he24 rfl 17 (by decide) (hG _ gw_9_42) (fun _ h => h) rfl d_Mo_prepare_288 ?_
          clear he24
          refine lv_iload_n hx hb d_Mo_prepare_291 rfl (lv_at hl 3 rfl) ?_
          refine lv_iconst (v := nI 4) hx hb d_Mo_prepare_292 (by decide +kernel) ?_
          refine lv_isub hx hb d_Mo_prepare_293 ?_
          refine aw_ti (pk_sub (a := (4 + t)) (b := 4) (by omega)) ?_
          have he26 := zr_M15 hSh
          refine aw_ild hx hb hK hP 82 0 he26 rfl (k := ((4 + t) - 4)) (by omega) (by decide) d_Mo_prepare_294 ?_
          clear he26
          refine ag_topi (fun x27 ex27 => ?_)
          refine lv_iconst (v := (-1)) hx hb d_Mo_prepare_295 (by decide +kernel) ?_
          refine lv_ixor hx hb d_Mo_prepare_296 ?_
          refine ag_topi (fun x28 ex28 => ?_)
          refine lv_iload_n hx hb d_Mo_prepare_297 rfl (lv_at hl 0 rfl) ?_
          refine lv_ixor hx hb d_Mo_prepare_298 ?_
          refine ag_topi (fun x29 ex29 => ?_)
          refine lv_iload_n hx hb d_Mo_prepare_299 rfl (lv_at hl 3 rfl) ?_
          refine lv_iconst (v := nI 4) hx hb d_Mo_prepare_300 (by decide +kernel) ?_
          refine lv_isub hx hb d_Mo_prepare_301 ?_
          refine aw_ti (pk_sub (a := (4 + t)) (b := 4) (by omega)) ?_
          refine aw_ci ((va_runS (As := [.int (nI ((4 + t) - 4))]) (rest := [.int x29, .int (nI (4 + t)), .ref (aw_m ad 15)]) ⟨hx, hb, hml, hown, hG⟩ (k_Mo_bitV l (nI ((4 + t) - 4))) (aw_wS 1 hG gw_11_30 gw_11_28 gw_0_10 gw_11_29 rfl rfl hd_Mo_bit ⟨Nat.le_of_ble_eq_true rfl, Nat.le_of_ble_eq_true rfl⟩) aw_p0 rfl rfl hl.1 rfl (lv_room (Nat.le_of_ble_eq_true rfl)) d_Mo_prepare_302 ⟨Nat.le_of_ble_eq_true rfl, Nat.le_of_ble_eq_true rfl⟩).run) (fun x30 ex30 => ?_)
          have ex30 := ex30.symm
          refine lv_ixor hx hb d_Mo_prepare_305 ?_
          refine ag_topi (fun x31 ex31 => ?_)
          refine lv_iconst (v := nI 3) hx hb d_Mo_prepare_306 (by decide +kernel) ?_
          refine lv_ixor hx hb d_Mo_prepare_307 ?_
          refine ag_topi (fun x32 ex32 => ?_)
          have he33 := zr_M15 hSh
          refine ag_ist hx hb hK hP hD hS 82 0 he33 rfl (k := (4 + t)) (by omega) (by decide) d_Mo_prepare_308 (zw_I15w hSh (4 + t) x32) ?_
          clear hP hD hSh hS he33
          intro H locs L hP hD hSh hS
          obtain ⟨zI34, ezI34⟩ : ∃ z : Nat → Nat → Int32, az_v ((v_Mo_prepare3V_L246 zI zL j t)) 15 (4 + t) x32 = z := ⟨_, rfl⟩
          rw [ezI34] at hSh
          refine lv_iinc (k := 3) (v := nI (4 + t + 1)) hx hb d_Mo_prepare_309 hl rfl (aw_inc (4 + t) 1 1 (by decide +kernel)) (by decide) rfl (fun ls hl => ?_)
          have hl : lv_has ls 4 [(2, .int (nI (4 + t + 1))), (3, .int x21), (0, .ref (aw_m ad 0)), (1, .int (nI j))] := hl
          refine lv_goto (tgt := 246) hx hb d_Mo_prepare_312 (by decide) ?_
          have hl := lv_sub hl (l' := [(0, .ref (aw_m ad 0)), (1, .int (nI j)), (2, .int (nI (4 + t + 1)))]) [2, 3, 0] rfl
          have g0 : zI34 = (v_Mo_prepare3V_L246 zI zL j (t + 1)) := by subst ezI34 ex32 ex31 ex30 ex29 ex28 ex27 ex21 ex20 ex19 ex18 ex14 ex13; (rw [v_Mo_prepare3V_L246_s]) <;> rfl
          have hSh : az_Sh g ad zG zO zX zY zA zB zM ((v_Mo_prepare3V_L246 zI zL j (t + 1))) zL (nI 3) 44 zF zQ L := by rw [← g0]; exact hSh
          exact ih (t + 1) H locs L ls (by omega) hP hD hSh hS (by first | exact hl | simpa [Nat.add_assoc, Nat.mul_add, Nat.add_comm] using hl)
      have hl := lv_sub hl (l' := [(0, .ref (aw_m ad 0)), (1, .int (nI j)), (2, .int (nI 4))]) [1, 2, 0] rfl
      have g0 : (v_Mo_prepare3V_L219 zI zL j 4) = (v_Mo_prepare3V_L246 zI zL j 0) := by (rw [v_Mo_prepare3V_L246_z]) <;> rfl
      have hSh : az_Sh g ad zG zO zX zY zA zB zM ((v_Mo_prepare3V_L246 zI zL j 0)) zL (nI 3) 44 zF zQ L := by rw [← g0]; exact hSh
      exact L246 40 0 _ _ L ls (by omega) hP hD hSh hS (by first | exact hl | simpa using hl)
    | succ d ih =>
      intro t H locs L ls ht0 hP hD hSh hS hl
      refine lv_iload_n hx hb d_Mo_prepare_219 rfl (lv_at hl 2 rfl) ?_
      refine lv_iconst (v := nI 4) hx hb d_Mo_prepare_220 (by decide +kernel) ?_
      refine lv_icmp_ge (tgt := 244) hx hb d_Mo_prepare_221 (by decide) (fun h => absurd h (show ¬ nI 4 ≤ nI t from fun h9 => absurd ((nI_leI (by omega) (by omega)).mp h9) (by omega))) (fun _ => ?_)
      refine lv_aload_n hx hb d_Mo_prepare_224 rfl (lv_at hl 0 rfl) ?_
      obtain ⟨hsd36, he35⟩ := zr_M0 hSh
      refine va_get (C := R_Mo) (T := T_Mo) (N := 19) (v := .ref (aw_m ad 15)) hx hb hG in_Mo hown hK hP 67 he35 rfl 17 (by decide) (hG _ gw_9_42) (fun _ h => h) rfl d_Mo_prepare_225 ?_
      clear he35
      refine lv_iconst (v := nI 3) hx hb d_Mo_prepare_228 (by decide +kernel) ?_
      refine lv_iload_n hx hb d_Mo_prepare_229 rfl (lv_at hl 2 rfl) ?_
      refine lv_isub hx hb d_Mo_prepare_230 ?_
      refine aw_ti (pk_sub (a := 3) (b := t) (by omega)) ?_
      refine lv_aload_n hx hb d_Mo_prepare_231 rfl (lv_at hl 0 rfl) ?_
      refine lv_iload_n hx hb d_Mo_prepare_232 rfl (lv_at hl 1 rfl) ?_
      refine lv_iload_n hx hb d_Mo_prepare_233 rfl (lv_at hl 2 rfl) ?_
      obtain ⟨_, he37⟩ := zr_M0 hSh
      refine va_calli (va_runV (As := [.int (nI j), .int (nI t)]) (rest := [.int (nI (3 - t)), .ref (aw_m ad 15)]) ⟨hx, hb, hml, hown, hG⟩ (k_Mo_quarterV l D g ad N0 zG zO zX zY zA zB zM ((v_Mo_prepare3V_L219 zI zL j t)) zL (nI 3) 44 zF zQ j (nI t) hj) (aw_wV 2 hG gw_11_14 gw_11_12 gw_0_10 gw_11_13 gw_p_14 rfl rfl hd_Mo_quarter ⟨Nat.le_of_ble_eq_true rfl, Nat.le_of_ble_eq_true rfl⟩) (ag_qV (va_recv hK hP rfl he37) hP hD hSh hU hS) rfl rfl hl.1 rfl (lv_room (Nat.le_of_ble_eq_true rfl)) d_Mo_prepare_234 ⟨Nat.le_of_ble_eq_true rfl, Nat.le_of_ble_eq_true rfl⟩) hS (fun _ _ h => h) (fun _ h => h) ?_
      clear hP hD hSh hS he37
      intro x38 u8 t8 H locs ht _ ex38 hB _ _ hS
      obtain ⟨L, hP, hD, hSh⟩ := hB
      rw [ht] at hP
      clear ht
      have ex38 := ex38.symm
      have he39 := zr_M15 hSh
      refine ag_ist hx hb hK hP hD hS 82 0 he39 rfl (k := (3 - t)) (by omega) (by decide) d_Mo_prepare_237 (zw_I15w hSh (3 - t) x38) ?_
      clear hP hD hSh hS he39
      intro H locs L hP hD hSh hS
      obtain ⟨zI40, ezI40⟩ : ∃ z : Nat → Nat → Int32, az_v ((v_Mo_prepare3V_L219 zI zL j t)) 15 (3 - t) x38 = z := ⟨_, rfl⟩
      rw [ezI40] at hSh
      refine lv_iinc (k := 2) (v := nI (t + 1)) hx hb d_Mo_prepare_238 hl rfl (aw_inc t 1 1 (by decide +kernel)) (by decide) rfl (fun ls hl => ?_)
      have hl : lv_has ls 4 [(2, .int (nI (t + 1))), (0, .ref (aw_m ad 0)), (1, .int (nI j))] := hl
      refine lv_goto (tgt := 219) hx hb d_Mo_prepare_241 (by decide) ?_
      have hl := lv_sub hl (l' := [(0, .ref (aw_m ad 0)), (1, .int (nI j)), (2, .int (nI (t + 1)))]) [1, 2, 0] rfl
      have g0 : zI40 = (v_Mo_prepare3V_L219 zI zL j (t + 1)) := by subst ezI40 ex38; (rw [v_Mo_prepare3V_L219_s]) <;> rfl
      have hSh : az_Sh g ad zG zO zX zY zA zB zM ((v_Mo_prepare3V_L219 zI zL j (t + 1))) zL (nI 3) 44 zF zQ L := by rw [← g0]; exact hSh
      exact ih (t + 1) H locs L ls (by omega) hP hD hSh hS (by first | exact hl | simpa [Nat.add_assoc, Nat.mul_add, Nat.add_comm] using hl)
  have hl := lv_sub hl (l' := [(0, .ref (aw_m ad 0)), (1, .int (nI j)), (2, .int (nI 0))]) [1, 2, 0] rfl
  have g0 : zI = (v_Mo_prepare3V_L219 zI zL j 0) := by (rw [v_Mo_prepare3V_L219_z]) <;> rfl
  have hSh : az_Sh g ad zG zO zX zY zA zB zM ((v_Mo_prepare3V_L219 zI zL j 0)) zL (nI 3) 44 zF zQ L := by rw [← g0]; exact hSh
  exact L219 4 0 _ _ L ls (by omega) hP hD hSh hS (by first | exact hl | simpa using hl)
noncomputable def v_Mo_prepare4V_zI (zI : Nat → Nat → Int32) (zL : Nat → Nat → Int64) (j : Nat) : Nat → Nat → Int32 := v_Mo_prepareFourV_zI zI zL j
abbrev ws_Mo_prepare4V : List Cond := Cond.code y_Mo_prepare b_Mo_prepare 4 none :: aw_G
abbrev rm_Mo_prepare4V : Room := { frames := 3, cells := 0, slots := 0, locals := 71 }
set_option maxHeartbeats 4000000 in
set_option maxRecDepth 100000 in
theorem k_Mo_prepare4V (l : Launch) (D : va_G) (g : Nat → ClassId) (ad : Nat → Nat) (N0 : Nat) (zG : Nat → Nat × Nat) (zO : Nat → Nat) (zX : Nat → Nat → Int64) (zY : Nat → Nat → Int32) (zA : Nat → Nat → Nat → Int32) (zB : Nat → Int32) (zM : Nat → Nat × Nat) (zI : Nat → Nat → Int32) (zL : Nat → Nat → Int64) (zK : Int32) (zN : Nat) (zF : Int32) (zQ : Int64) (j : Nat) (hj : j < 4) (hci : zI 3 j = nI 4) : Met l y_Mo_prepare ws_Mo_prepare4V rm_Mo_prepare4V (va_Pc ([.ref (aw_m ad 0), .int (nI j)] : List Value) (ag_B D g N0 (az_Sh g ad zG zO zX zY zA zB zM zI zL zK zN zF zQ))) (va_Qv (fun (_ : Unit) => True) (fun (_ : Unit) t => ag_H D N0 (az_Sh g ad zG zO zX zY zA zB zM (v_Mo_prepare4V_zI zI zL j) zL (nI 4) 52 zF zQ) t.heap) (aw_Z N0)) 0 0 (aw_Z N0) := by
  refine Met.ofW (cc := b_Mo_prepare) (maxL := 4) (ret := none) (by decide) rfl ?_
  intro p e s m args below meth c s₁ B hml hv
  obtain ⟨rfl, ⟨L, hP, hD, hSh⟩, hU⟩ := hv
  have hx := B.exec
  have hb := B.bytes
  have hr := B.returns
  have hG : ∀ w ∈ aw_G, w.before _ s = true := fun w h => atoms_spec (ws := ws_Mo_prepare4V) B.pre w (List.mem_cons_of_mem _ h)
  have hown : s.vm.findClass "RuleCiphersModel" = some m.cls := findClass_of_methodNamed B.named
  have hlocks := B.notSynchronized
  have hE := hU.1
  have hK := hE.1
  have hN := hE.2.1
  have hS : va_S (aw_Z N0) s.heap s.heap [] := va_S.rf
  have hl := lv_entry ([.ref (aw_m ad 0), .int (nI j)] : List Value) (n := 4) (Nat.le_of_ble_eq_true rfl)
  rw [lg_entry_eq]
  generalize (lg_sl ([.ref (aw_m ad 0), .int (nI j)] : List Value) ++ List.replicate (4 - (lg_sl ([.ref (aw_m ad 0), .int (nI j)] : List Value)).length) Slot.unset).toArray = ls at hl ⊢
  have hl : lv_has ls 4 [(0, .ref (aw_m ad 0)), (1, .int (nI j))] := hl
  refine lv_aload_n hx hb d_Mo_prepare_0 rfl (lv_at hl 0 rfl) ?_
  refine lv_aload_n hx hb d_Mo_prepare_1 rfl (lv_at hl 0 rfl) ?_
  obtain ⟨hsd2, he1⟩ := zr_M0 hSh
  refine va_get (C := R_Mo) (T := T_Mo) (N := 19) (v := .ref (aw_m ad 3)) hx hb hG in_Mo hown hK hP 67 he1 rfl 3 (by decide) (hG _ gw_9_28) (fun _ h => h) rfl d_Mo_prepare_2 ?_
  clear he1
  refine lv_iload_n hx hb d_Mo_prepare_5 rfl (lv_at hl 1 rfl) ?_
  have he3 := zr_M3 hSh
  refine aw_ild hx hb hK hP 70 0 he3 rfl (k := j) (by omega) (by decide) d_Mo_prepare_6 ?_
  clear he3
  refine aw_ti (y := nI 4) hci ?_
  obtain ⟨hsd5, he4⟩ := zr_M0 hSh
  refine ag_put (v := .int (nI 4)) (ty := .int) (C := R_Mo) (T := T_Mo) (N := 19) hx hb hG in_Mo t_Mo t_Mo_ok n_Mo hown hK hP hD hS 67 he4 rfl 15 (by decide) (hG _ gw_9_40) (fun _ h => h) rfl (by decide +kernel) rfl rfl (Nat.le_of_ble_eq_true rfl) d_Mo_prepare_7 (zw_K hSh (nI 4)) ?_
  clear hP hD hSh hS he4
  intro H locs L hP hD hSh hS
  refine lv_aload_n hx hb d_Mo_prepare_10 rfl (lv_at hl 0 rfl) ?_
  obtain ⟨hsd7, he6⟩ := zr_M0 hSh
  refine va_get (C := R_Mo) (T := T_Mo) (N := 19) (v := .int (nI 4)) hx hb hG in_Mo hown hK hP 67 he6 rfl 15 (by decide) (hG _ gw_9_40) (fun _ h => h) rfl d_Mo_prepare_11 ?_
  clear he6
  refine lv_tableOut (tgt := 318) hx hb d_Mo_prepare_14 (by decide +kernel) (by decide) ?_
  refine lv_aload_n hx hb d_Mo_prepare_318 rfl (lv_at hl 0 rfl) ?_
  refine lv_bipush (v := nI 52) hx hb d_Mo_prepare_319 (by decide +kernel) ?_
  obtain ⟨hsd9, he8⟩ := zr_M0 hSh
  refine ag_put (v := .int (nI 52)) (ty := .int) (C := R_Mo) (T := T_Mo) (N := 19) hx hb hG in_Mo t_Mo t_Mo_ok n_Mo hown hK hP hD hS 67 he8 rfl 16 (by decide) (hG _ gw_9_41) (fun _ h => h) rfl (by decide +kernel) rfl rfl (Nat.le_of_ble_eq_true rfl) d_Mo_prepare_321 (zw_N hSh 52 (by omega)) ?_
  clear hP hD hSh hS he8
  intro H locs L hP hD hSh hS
  refine lv_aload_n hx hb d_Mo_prepare_324 rfl (lv_at hl 0 rfl) ?_
  refine lv_iload_n hx hb d_Mo_prepare_325 rfl (lv_at hl 1 rfl) ?_
  obtain ⟨_, he10⟩ := zr_M0 hSh
  refine va_callv (va_runV (As := [.int (nI j)]) (rest := []) ⟨hx, hb, hml, hown, hG⟩ (k_Mo_prepareFourV l D g ad N0 zG zO zX zY zA zB zM zI zL (nI 4) 52 zF zQ j hj) (aw_wV 1 hG gw_11_35 gw_11_33 gw_0_10 gw_11_34 gw_p_15 rfl rfl hd_Mo_prepareFour ⟨Nat.le_of_ble_eq_true rfl, Nat.le_of_ble_eq_true rfl⟩) (ag_qV (va_recv hK hP rfl he10) hP hD hSh hU hS) rfl rfl hl.1 rfl (lv_room (Nat.le_of_ble_eq_true rfl)) d_Mo_prepare_326 ⟨Nat.le_of_ble_eq_true rfl, Nat.le_of_ble_eq_true rfl⟩) hS (fun _ _ h => h) (fun _ h => h) ?_
  clear hP hD hSh hS he10
  intro u8 t8 H locs ht _ _ hB _ _ hS
  obtain ⟨L, hP, hD, hSh⟩ := hB
  rw [ht] at hP
  clear ht
  obtain ⟨zI11, ezI11⟩ : ∃ z : Nat → Nat → Int32, v_Mo_prepareFourV_zI zI zL j = z := ⟨_, rfl⟩
  rw [ezI11] at hSh
  have gzI : zI11 = v_Mo_prepare4V_zI zI zL j := by subst ezI11; rfl
  have hSh : az_Sh g ad zG zO zX zY zA zB zM (v_Mo_prepare4V_zI zI zL j) zL (nI 4) 52 zF zQ L := by rw [← gzI]; exact hSh
  exact W.vret hx hb hr (fun t ht hW => ⟨⟨(), rfl, trivial, ag_Hr ht hP hD hSh⟩, hS.F ht⟩) hS.2.2 d_Mo_prepare_329
