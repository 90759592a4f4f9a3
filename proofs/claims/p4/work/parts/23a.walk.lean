noncomputable def v_Si_stirredV (a0 : Int32) : Int32 := (((v_Ru_turnLeftV a0 (nI 1)) &&& (v_Ru_turnLeftV a0 (nI 8))) ^^^ (v_Ru_turnLeftV a0 (nI 2)))
abbrev ws_Si_stirredV : List Cond := Cond.code y_Si_stirred b_Si_stirred 1 (some .int) :: aw_G
abbrev rm_Si_stirredV : Room := { frames := 1, cells := 0, slots := 0, locals := 21 }
set_option maxHeartbeats 4000000 in
set_option maxRecDepth 100000 in
theorem k_Si_stirredV (l : Launch) (D : va_G) (g : Nat → ClassId) (ad : Nat → Nat) (N0 : Nat) (zG : Nat → Nat × Nat) (zO : Nat → Nat) (zX : Nat → Nat → Int64) (zY : Nat → Nat → Int32) (zA : Nat → Nat → Nat → Int32) (zB : Nat → Int32) (zM : Nat → Nat × Nat) (zI : Nat → Nat → Int32) (zL : Nat → Nat → Int64) (zK : Int32) (zN : Nat) (zF : Int32) (zQ : Int64) (a0 : Int32) : Met l y_Si_stirred ws_Si_stirredV rm_Si_stirredV (va_Pc ([.int a0] : List Value) (ag_B D g N0 (az_Sh g ad zG zO zX zY zA zB zM zI zL zK zN zF zQ))) (va_Qi (fun r (_ : Unit) => r = v_Si_stirredV a0) (fun (_ : Unit) t => ag_H D N0 (az_Sh g ad zG zO zX zY zA zB zM zI zL zK zN zF zQ) t.heap) (aw_Z N0)) 0 0 (aw_Z N0) := by
  refine Met.ofW (cc := b_Si_stirred) (maxL := 1) (ret := (some .int)) (by decide) rfl ?_
  intro p e s m args below meth c s₁ B hml hv
  obtain ⟨rfl, ⟨L, hP, hD, hSh⟩, hU⟩ := hv
  have hx := B.exec
  have hb := B.bytes
  have hr := B.returns
  have hG : ∀ w ∈ aw_G, w.before _ s = true := fun w h => atoms_spec (ws := ws_Si_stirredV) B.pre w (List.mem_cons_of_mem _ h)
  have hown : s.vm.findClass "RuleCiphers$Simon" = some m.cls := findClass_of_methodNamed B.named
  have hlocks := B.notSynchronized
  have hE := hU.1
  have hK := hE.1
  have hN := hE.2.1
  have hS : va_S (aw_Z N0) s.heap s.heap [] := va_S.rf
  have hl := lv_entry ([.int a0] : List Value) (n := 1) (Nat.le_of_ble_eq_true rfl)
  rw [lg_entry_eq]
  generalize (lg_sl ([.int a0] : List Value) ++ List.replicate (1 - (lg_sl ([.int a0] : List Value)).length) Slot.unset).toArray = ls at hl ⊢
  have hl : lv_has ls 1 [(0, .int a0)] := hl
  refine lv_iload_n hx hb d_Si_stirred_0 rfl (lv_at hl 0 rfl) ?_
  refine lv_iconst (v := nI 1) hx hb d_Si_stirred_1 (by decide +kernel) ?_
  refine aw_ci ((va_runSN (As := [.int a0, .int (nI 1)]) (rest := []) ⟨hx, hb, hml, hown, hG⟩ (k_Ru_turnLeftV l a0 (nI 1)) (aw_wSN 2 hG hN gw_5_5 nw_28 gw_0_1 gw_5_4 rfl rfl hd_Ru_turnLeft ⟨Nat.le_of_ble_eq_true rfl, Nat.le_of_ble_eq_true rfl⟩) aw_p0 rfl rfl hl.1 rfl (lv_room (Nat.le_of_ble_eq_true rfl)) d_Si_stirred_2 ⟨Nat.le_of_ble_eq_true rfl, Nat.le_of_ble_eq_true rfl⟩).run) (fun x1 ex1 => ?_)
  have ex1 := ex1.symm
  refine lv_iload_n hx hb d_Si_stirred_5 rfl (lv_at hl 0 rfl) ?_
  refine lv_bipush (v := nI 8) hx hb d_Si_stirred_6 (by decide +kernel) ?_
  refine aw_ci ((va_runSN (As := [.int a0, .int (nI 8)]) (rest := [.int x1]) ⟨hx, hb, hml, hown, hG⟩ (k_Ru_turnLeftV l a0 (nI 8)) (aw_wSN 2 hG hN gw_5_5 nw_28 gw_0_1 gw_5_4 rfl rfl hd_Ru_turnLeft ⟨Nat.le_of_ble_eq_true rfl, Nat.le_of_ble_eq_true rfl⟩) aw_p0 rfl rfl hl.1 rfl (lv_room (Nat.le_of_ble_eq_true rfl)) d_Si_stirred_8 ⟨Nat.le_of_ble_eq_true rfl, Nat.le_of_ble_eq_true rfl⟩).run) (fun x2 ex2 => ?_)
  have ex2 := ex2.symm
  refine lv_iand hx hb d_Si_stirred_11 ?_
  refine ag_topi (fun x3 ex3 => ?_)
  refine lv_iload_n hx hb d_Si_stirred_12 rfl (lv_at hl 0 rfl) ?_
  refine lv_iconst (v := nI 2) hx hb d_Si_stirred_13 (by decide +kernel) ?_
  refine aw_ci ((va_runSN (As := [.int a0, .int (nI 2)]) (rest := [.int x3]) ⟨hx, hb, hml, hown, hG⟩ (k_Ru_turnLeftV l a0 (nI 2)) (aw_wSN 2 hG hN gw_5_5 nw_28 gw_0_1 gw_5_4 rfl rfl hd_Ru_turnLeft ⟨Nat.le_of_ble_eq_true rfl, Nat.le_of_ble_eq_true rfl⟩) aw_p0 rfl rfl hl.1 rfl (lv_room (Nat.le_of_ble_eq_true rfl)) d_Si_stirred_14 ⟨Nat.le_of_ble_eq_true rfl, Nat.le_of_ble_eq_true rfl⟩).run) (fun x4 ex4 => ?_)
  have ex4 := ex4.symm
  refine lv_ixor hx hb d_Si_stirred_17 ?_
  refine ag_topi (fun x5 ex5 => ?_)
  exact W.iret hx hb hr (fun t ht hW => ⟨⟨_, (), rfl, (by subst ex5 ex4 ex3 ex2 ex1; rfl), ag_Hr ht hP hD hSh⟩, hS.F ht⟩) hS.2.2 d_Si_stirred_18
noncomputable def v_Rc_onV_L34 (zA : Nat → Nat → Nat → Int32) (j : Nat) (b : Int64) (t : Nat) : Int32 × Int32 := Nat.rec (motive := fun _ => Int32 × Int32) (((v_Ru_bytesReversedV (v_Ru_firstHalfV b)) + (zA j 3 0)), ((v_Ru_bytesReversedV (v_Ru_secondHalfV b)) + (zA j 3 1))) (fun t s => (((v_Ru_turnLeftV ((s.1) ^^^ (s.2)) (s.2)) + (zA j 3 (2 * (1 + t)))), ((v_Ru_turnLeftV ((s.2) ^^^ ((v_Ru_turnLeftV ((s.1) ^^^ (s.2)) (s.2)) + (zA j 3 (2 * (1 + t))))) ((v_Ru_turnLeftV ((s.1) ^^^ (s.2)) (s.2)) + (zA j 3 (2 * (1 + t))))) + (zA j 3 ((2 * (1 + t)) + 1))))) t
theorem v_Rc_onV_L34_z (zA : Nat → Nat → Nat → Int32) (j : Nat) (b : Int64) : v_Rc_onV_L34 zA j b 0 = (((v_Ru_bytesReversedV (v_Ru_firstHalfV b)) + (zA j 3 0)), ((v_Ru_bytesReversedV (v_Ru_secondHalfV b)) + (zA j 3 1))) := rfl
theorem v_Rc_onV_L34_s (zA : Nat → Nat → Nat → Int32) (j : Nat) (b : Int64) (t : Nat) : v_Rc_onV_L34 zA j b (t + 1) = (((v_Ru_turnLeftV (((v_Rc_onV_L34 zA j b t).1) ^^^ ((v_Rc_onV_L34 zA j b t).2)) ((v_Rc_onV_L34 zA j b t).2)) + (zA j 3 (2 * (1 + t)))), ((v_Ru_turnLeftV (((v_Rc_onV_L34 zA j b t).2) ^^^ ((v_Ru_turnLeftV (((v_Rc_onV_L34 zA j b t).1) ^^^ ((v_Rc_onV_L34 zA j b t).2)) ((v_Rc_onV_L34 zA j b t).2)) + (zA j 3 (2 * (1 + t))))) ((v_Ru_turnLeftV (((v_Rc_onV_L34 zA j b t).1) ^^^ ((v_Rc_onV_L34 zA j b t).2)) ((v_Rc_onV_L34 zA j b t).2)) + (zA j 3 (2 * (1 + t))))) + (zA j 3 ((2 * (1 + t)) + 1)))) := rfl
noncomputable def v_Rc_onV (zA : Nat → Nat → Nat → Int32) (j : Nat) (b : Int64) : Int64 := v_Ru_joinedV (v_Ru_bytesReversedV ((v_Rc_onV_L34 zA j b 12).1)) (v_Ru_bytesReversedV ((v_Rc_onV_L34 zA j b 12).2))
abbrev ws_Rc_onV : List Cond := Cond.code y_Rc_on b_Rc_on 6 (some .long) :: aw_G
abbrev rm_Rc_onV : Room := { frames := 1, cells := 0, slots := 0, locals := 21 }
set_option maxHeartbeats 4000000 in
set_option maxRecDepth 100000 in
theorem k_Rc_onV (l : Launch) (D : va_G) (g : Nat → ClassId) (ad : Nat → Nat) (N0 : Nat) (zG : Nat → Nat × Nat) (zO : Nat → Nat) (zX : Nat → Nat → Int64) (zY : Nat → Nat → Int32) (zA : Nat → Nat → Nat → Int32) (zB : Nat → Int32) (zM : Nat → Nat × Nat) (zI : Nat → Nat → Int32) (zL : Nat → Nat → Int64) (zK : Int32) (zN : Nat) (zF : Int32) (zQ : Int64) (j : Nat) (b : Int64) (hj : j < 4) : Met l y_Rc_on ws_Rc_onV rm_Rc_onV (va_Pc ([.ref (aw_c ad j 2), .long b] : List Value) (ag_B D g N0 (az_Sh g ad zG zO zX zY zA zB zM zI zL zK zN zF zQ))) (va_Ql (fun r (_ : Unit) => r = v_Rc_onV zA j b) (fun (_ : Unit) t => ag_H D N0 (az_Sh g ad zG zO zX zY zA zB zM zI zL zK zN zF zQ) t.heap) (aw_Z N0)) 0 0 (aw_Z N0) := by
  refine Met.ofW (cc := b_Rc_on) (maxL := 6) (ret := (some .long)) (by decide) rfl ?_
  intro p e s m args below meth c s₁ B hml hv
  obtain ⟨rfl, ⟨L, hP, hD, hSh⟩, hU⟩ := hv
  have hx := B.exec
  have hb := B.bytes
  have hr := B.returns
  have hG : ∀ w ∈ aw_G, w.before _ s = true := fun w h => atoms_spec (ws := ws_Rc_onV) B.pre w (List.mem_cons_of_mem _ h)
  have hown : s.vm.findClass "RuleCiphers$Rc5" = some m.cls := findClass_of_methodNamed B.named
  have hlocks := B.notSynchronized
  have hE := hU.1
  have hK := hE.1
  have hN := hE.2.1
  have hS : va_S (aw_Z N0) s.heap s.heap [] := va_S.rf
  have hl := lv_entry ([.ref (aw_c ad j 2), .long b] : List Value) (n := 6) (Nat.le_of_ble_eq_true rfl)
  rw [lg_entry_eq]
  generalize (lg_sl ([.ref (aw_c ad j 2), .long b] : List Value) ++ List.replicate (6 - (lg_sl ([.ref (aw_c ad j 2), .long b] : List Value)).length) Slot.unset).toArray = ls at hl ⊢
  have hl : lv_has ls 6 [(0, .ref (aw_c ad j 2)), (1, .long b)] := hl
  refine lv_lload_n hx hb d_Rc_on_0 rfl (lv_at hl 1 rfl) ?_
  refine aw_ci ((va_runSN (As := [.long b]) (rest := []) ⟨hx, hb, hml, hown, hG⟩ (k_Ru_firstHalfV l b) (aw_wSN 1 hG hN gw_4_52 nw_22 gw_0_1 gw_4_51 rfl rfl hd_Ru_firstHalf ⟨Nat.le_of_ble_eq_true rfl, Nat.le_of_ble_eq_true rfl⟩) aw_p0 rfl rfl hl.1 rfl (lv_room (Nat.le_of_ble_eq_true rfl)) d_Rc_on_1 ⟨Nat.le_of_ble_eq_true rfl, Nat.le_of_ble_eq_true rfl⟩).run) (fun x1 ex1 => ?_)
  have ex1 := ex1.symm
  refine aw_ci ((va_runSN (As := [.int x1]) (rest := []) ⟨hx, hb, hml, hown, hG⟩ (k_Ru_bytesReversedV l x1) (aw_wSN 1 hG hN gw_4_57 nw_13 gw_0_1 gw_4_56 rfl rfl hd_Ru_bytesReversed ⟨Nat.le_of_ble_eq_true rfl, Nat.le_of_ble_eq_true rfl⟩) aw_p0 rfl rfl hl.1 rfl (lv_room (Nat.le_of_ble_eq_true rfl)) d_Rc_on_4 ⟨Nat.le_of_ble_eq_true rfl, Nat.le_of_ble_eq_true rfl⟩).run) (fun x2 ex2 => ?_)
  have ex2 := ex2.symm
  refine lv_aload_n hx hb d_Rc_on_7 rfl (lv_at hl 0 rfl) ?_
  have he3 := zr_C2 hSh hj
  refine va_get (C := R_Rc) (T := T_Rc) (N := 2) (v := .ref (aw_c ad j 3)) hx hb hG in_Rc hown hK hP (3 + 16 * j + 2) he3 rfl 0 (by decide) (hG _ gw_0_50) (fun x9 h9 => u_same (hG _ gw_0_51) x9 h9) rfl d_Rc_on_8 ?_
  clear he3
  refine lv_iconst (v := nI 0) hx hb d_Rc_on_11 (by decide +kernel) ?_
  have he4 := zr_C3 hSh hj
  refine aw_ild hx hb hK hP (3 + 16 * j + 3) 0 he4 rfl (k := 0) (by omega) (by decide) d_Rc_on_12 ?_
  clear he4
  refine ag_topi (fun x5 ex5 => ?_)
  refine lv_iadd hx hb d_Rc_on_13 ?_
  refine ag_topi (fun x6 ex6 => ?_)
  refine lv_istore_n hx hb d_Rc_on_14 rfl hl (by decide) rfl (fun ls hl => ?_)
  have hl : lv_has ls 6 [(3, .int x6), (0, .ref (aw_c ad j 2)), (1, .long b)] := hl
  refine lv_lload_n hx hb d_Rc_on_15 rfl (lv_at hl 2 rfl) ?_
  refine aw_ci ((va_runSN (As := [.long b]) (rest := []) ⟨hx, hb, hml, hown, hG⟩ (k_Ru_secondHalfV l b) (aw_wSN 1 hG hN gw_4_55 nw_23 gw_0_1 gw_4_54 rfl rfl hd_Ru_secondHalf ⟨Nat.le_of_ble_eq_true rfl, Nat.le_of_ble_eq_true rfl⟩) aw_p0 rfl rfl hl.1 rfl (lv_room (Nat.le_of_ble_eq_true rfl)) d_Rc_on_16 ⟨Nat.le_of_ble_eq_true rfl, Nat.le_of_ble_eq_true rfl⟩).run) (fun x7 ex7 => ?_)
  have ex7 := ex7.symm
  refine aw_ci ((va_runSN (As := [.int x7]) (rest := []) ⟨hx, hb, hml, hown, hG⟩ (k_Ru_bytesReversedV l x7) (aw_wSN 1 hG hN gw_4_57 nw_13 gw_0_1 gw_4_56 rfl rfl hd_Ru_bytesReversed ⟨Nat.le_of_ble_eq_true rfl, Nat.le_of_ble_eq_true rfl⟩) aw_p0 rfl rfl hl.1 rfl (lv_room (Nat.le_of_ble_eq_true rfl)) d_Rc_on_19 ⟨Nat.le_of_ble_eq_true rfl, Nat.le_of_ble_eq_true rfl⟩).run) (fun x8 ex8 => ?_)
  have ex8 := ex8.symm
  refine lv_aload_n hx hb d_Rc_on_22 rfl (lv_at hl 1 rfl) ?_
  have he9 := zr_C2 hSh hj
  refine va_get (C := R_Rc) (T := T_Rc) (N := 2) (v := .ref (aw_c ad j 3)) hx hb hG in_Rc hown hK hP (3 + 16 * j + 2) he9 rfl 0 (by decide) (hG _ gw_0_50) (fun x9 h9 => u_same (hG _ gw_0_51) x9 h9) rfl d_Rc_on_23 ?_
  clear he9
  refine lv_iconst (v := nI 1) hx hb d_Rc_on_26 (by decide +kernel) ?_
  have he10 := zr_C3 hSh hj
  refine aw_ild hx hb hK hP (3 + 16 * j + 3) 0 he10 rfl (k := 1) (by omega) (by decide) d_Rc_on_27 ?_
  clear he10
  refine ag_topi (fun x11 ex11 => ?_)
  refine lv_iadd hx hb d_Rc_on_28 ?_
  refine ag_topi (fun x12 ex12 => ?_)
  refine lv_istore hx hb d_Rc_on_29 hl (by decide) rfl (fun ls hl => ?_)
  have hl : lv_has ls 6 [(4, .int x12), (3, .int x6), (0, .ref (aw_c ad j 2)), (1, .long b)] := hl
  refine lv_iconst (v := nI 1) hx hb d_Rc_on_31 (by decide +kernel) ?_
  refine lv_istore hx hb d_Rc_on_32 hl (by decide) rfl (fun ls hl => ?_)
  have hl : lv_has ls 6 [(5, .int (nI 1)), (4, .int x12), (3, .int x6), (0, .ref (aw_c ad j 2)), (1, .long b)] := hl
  have L34 : ∀ (d t : Nat) (H : Heap) (locs : List Loc) (L : va_W) (ls : Array Slot), t + d = 12 → va_P D aw_C L H → va_D (aw_Z N0) L → az_Sh g ad zG zO zX zY zA zB zM zI zL zK zN zF zQ L → va_S (aw_Z N0) s.heap H locs → lv_has ls 6 [(0, .ref (aw_c ad j 2)), (1, .long b), (3, .int ((v_Rc_onV_L34 zA j b t).1)), (4, .int ((v_Rc_onV_L34 zA j b t).2)), (5, .int (nI (1 + t)))] → W p l e (headSpec ws_Rc_onV rm_Rc_onV).room s m ([.ref (aw_c ad j 2), .long b] : List Value).toArray below meth c H locs 0 0 (MQ below (va_Ql (fun r (_ : Unit) => r = v_Rc_onV zA j b) (fun (_ : Unit) t => ag_H D N0 (az_Sh g ad zG zO zX zY zA zB zM zI zL zK zN zF zQ) t.heap) (aw_Z N0)) ([.ref (aw_c ad j 2), .long b] : List Value).toArray s 0 0 (aw_Z N0)) (F0 m 34 ls []) := by
    clear hl hP hD hSh hS
    intro d
    induction d with
    | zero =>
      intro t H locs L ls ht0 hP hD hSh hS hl
      have ht1 : t = 12 := by omega
      subst ht1
      refine lv_iload hx hb d_Rc_on_34 (lv_at hl 4 rfl) ?_
      refine lv_bipush (v := nI 12) hx hb d_Rc_on_36 (by decide +kernel) ?_
      refine lv_icmp_gt (tgt := 89) hx hb d_Rc_on_38 (by decide) (fun _ => ?_) (fun h => absurd (show nI 12 < nI (1 + 12) from (nI_ltI (by omega) (by omega)).mpr (by omega)) h)
      refine lv_iload_n hx hb d_Rc_on_89 rfl (lv_at hl 2 rfl) ?_
      refine aw_ci ((va_runSN (As := [.int ((v_Rc_onV_L34 zA j b 12).1)]) (rest := []) ⟨hx, hb, hml, hown, hG⟩ (k_Ru_bytesReversedV l ((v_Rc_onV_L34 zA j b 12).1)) (aw_wSN 1 hG hN gw_4_57 nw_13 gw_0_1 gw_4_56 rfl rfl hd_Ru_bytesReversed ⟨Nat.le_of_ble_eq_true rfl, Nat.le_of_ble_eq_true rfl⟩) aw_p0 rfl rfl hl.1 rfl (lv_room (Nat.le_of_ble_eq_true rfl)) d_Rc_on_90 ⟨Nat.le_of_ble_eq_true rfl, Nat.le_of_ble_eq_true rfl⟩).run) (fun x13 ex13 => ?_)
      have ex13 := ex13.symm
      refine lv_iload hx hb d_Rc_on_93 (lv_at hl 3 rfl) ?_
      refine aw_ci ((va_runSN (As := [.int ((v_Rc_onV_L34 zA j b 12).2)]) (rest := [.int x13]) ⟨hx, hb, hml, hown, hG⟩ (k_Ru_bytesReversedV l ((v_Rc_onV_L34 zA j b 12).2)) (aw_wSN 1 hG hN gw_4_57 nw_13 gw_0_1 gw_4_56 rfl rfl hd_Ru_bytesReversed ⟨Nat.le_of_ble_eq_true rfl, Nat.le_of_ble_eq_true rfl⟩) aw_p0 rfl rfl hl.1 rfl (lv_room (Nat.le_of_ble_eq_true rfl)) d_Rc_on_95 ⟨Nat.le_of_ble_eq_true rfl, Nat.le_of_ble_eq_true rfl⟩).run) (fun x14 ex14 => ?_)
      have ex14 := ex14.symm
      refine aw_cl ((va_runSN (As := [.int x13, .int x14]) (rest := []) ⟨hx, hb, hml, hown, hG⟩ (k_Ru_joinedV l x13 x14) (aw_wSN 2 hG hN gw_6_31 nw_25 gw_0_1 gw_6_30 rfl rfl hd_Ru_joined ⟨Nat.le_of_ble_eq_true rfl, Nat.le_of_ble_eq_true rfl⟩) aw_p0 rfl rfl hl.1 rfl (lv_room (Nat.le_of_ble_eq_true rfl)) d_Rc_on_98 ⟨Nat.le_of_ble_eq_true rfl, Nat.le_of_ble_eq_true rfl⟩).run) (fun y15 ey15 => ?_)
      have ey15 := ey15.symm
      exact W.lret hx hb hr (fun t ht hW => ⟨⟨_, (), rfl, (by subst ey15 ex14 ex13 ex12 ex11 ex8 ex7 ex6 ex5 ex2 ex1; rfl), ag_Hr ht hP hD hSh⟩, hS.F ht⟩) hS.2.2 d_Rc_on_101
    | succ d ih =>
      intro t H locs L ls ht0 hP hD hSh hS hl
      refine lv_iload hx hb d_Rc_on_34 (lv_at hl 4 rfl) ?_
      refine lv_bipush (v := nI 12) hx hb d_Rc_on_36 (by decide +kernel) ?_
      refine lv_icmp_gt (tgt := 89) hx hb d_Rc_on_38 (by decide) (fun h => absurd h (show ¬ nI 12 < nI (1 + t) from fun h9 => absurd ((nI_ltI (by omega) (by omega)).mp h9) (by omega))) (fun _ => ?_)
      refine lv_iload_n hx hb d_Rc_on_41 rfl (lv_at hl 2 rfl) ?_
      refine lv_iload hx hb d_Rc_on_42 (lv_at hl 3 rfl) ?_
      refine lv_ixor hx hb d_Rc_on_44 ?_
      refine ag_topi (fun x16 ex16 => ?_)
      refine lv_iload hx hb d_Rc_on_45 (lv_at hl 3 rfl) ?_
      refine aw_ci ((va_runSN (As := [.int x16, .int ((v_Rc_onV_L34 zA j b t).2)]) (rest := []) ⟨hx, hb, hml, hown, hG⟩ (k_Ru_turnLeftV l x16 ((v_Rc_onV_L34 zA j b t).2)) (aw_wSN 2 hG hN gw_5_5 nw_14 gw_0_1 gw_5_4 rfl rfl hd_Ru_turnLeft ⟨Nat.le_of_ble_eq_true rfl, Nat.le_of_ble_eq_true rfl⟩) aw_p0 rfl rfl hl.1 rfl (lv_room (Nat.le_of_ble_eq_true rfl)) d_Rc_on_47 ⟨Nat.le_of_ble_eq_true rfl, Nat.le_of_ble_eq_true rfl⟩).run) (fun x17 ex17 => ?_)
      have ex17 := ex17.symm
      refine lv_aload_n hx hb d_Rc_on_50 rfl (lv_at hl 0 rfl) ?_
      have he18 := zr_C2 hSh hj
      refine va_get (C := R_Rc) (T := T_Rc) (N := 2) (v := .ref (aw_c ad j 3)) hx hb hG in_Rc hown hK hP (3 + 16 * j + 2) he18 rfl 0 (by decide) (hG _ gw_0_50) (fun x9 h9 => u_same (hG _ gw_0_51) x9 h9) rfl d_Rc_on_51 ?_
      clear he18
      refine lv_iconst (v := nI 2) hx hb d_Rc_on_54 (by decide +kernel) ?_
      refine lv_iload hx hb d_Rc_on_55 (lv_at hl 4 rfl) ?_
      refine lv_imul hx hb d_Rc_on_57 ?_
      refine aw_ti (pk_mul 2 (1 + t)) ?_
      have he19 := zr_C3 hSh hj
      refine aw_ild hx hb hK hP (3 + 16 * j + 3) 0 he19 rfl (k := (2 * (1 + t))) (by omega) (by decide) d_Rc_on_58 ?_
      clear he19
      refine ag_topi (fun x20 ex20 => ?_)
      refine lv_iadd hx hb d_Rc_on_59 ?_
      refine ag_topi (fun x21 ex21 => ?_)
      refine lv_istore_n hx hb d_Rc_on_60 rfl hl (by decide) rfl (fun ls hl => ?_)
      have hl : lv_has ls 6 [(3, .int x21), (0, .ref (aw_c ad j 2)), (1, .long b), (4, .int ((v_Rc_onV_L34 zA j b t).2)), (5, .int (nI (1 + t)))] := hl
      refine lv_iload hx hb d_Rc_on_61 (lv_at hl 3 rfl) ?_
      refine lv_iload_n hx hb d_Rc_on_63 rfl (lv_at hl 0 rfl) ?_
      refine lv_ixor hx hb d_Rc_on_64 ?_
      refine ag_topi (fun x22 ex22 => ?_)
      refine lv_iload_n hx hb d_Rc_on_65 rfl (lv_at hl 0 rfl) ?_
      refine aw_ci ((va_runSN (As := [.int x22, .int x21]) (rest := []) ⟨hx, hb, hml, hown, hG⟩ (k_Ru_turnLeftV l x22 x21) (aw_wSN 2 hG hN gw_5_5 nw_14 gw_0_1 gw_5_4 rfl rfl hd_Ru_turnLeft ⟨Nat.le_of_ble_eq_true rfl, Nat.le_of_ble_eq_true rfl⟩) aw_p0 rfl rfl hl.1 rfl (lv_room (Nat.le_of_ble_eq_true rfl)) d_Rc_on_66 ⟨Nat.le_of_ble_eq_true rfl, Nat.le_of_ble_eq_true rfl⟩).run) (fun x23 ex23 => ?_)
      have ex23 := ex23.symm
      refine lv_aload_n hx hb d_Rc_on_69 rfl (lv_at hl 1 rfl) ?_
      have he24 := zr_C2 hSh hj
      refine va_get (C := R_Rc) (T := T_Rc) (N := 2) (v := .ref (aw_c ad j 3)) hx hb hG in_Rc hown hK hP (3 + 16 * j + 2) he24 rfl 0 (by decide) (hG _ gw_0_50) (fun x9 h9 => u_same (hG _ gw_0_51) x9 h9) rfl d_Rc_on_70 ?_
      clear he24
      refine lv_iconst (v := nI 2) hx hb d_Rc_on_73 (by decide +kernel) ?_
      refine lv_iload hx hb d_Rc_on_74 (lv_at hl 4 rfl) ?_
      refine lv_imul hx hb d_Rc_on_76 ?_
      refine aw_ti (pk_mul 2 (1 + t)) ?_
      refine lv_iconst (v := nI 1) hx hb d_Rc_on_77 (by decide +kernel) ?_
      refine lv_iadd hx hb d_Rc_on_78 ?_
      refine aw_ti (nI_add (2 * (1 + t)) 1) ?_
      have he25 := zr_C3 hSh hj
      refine aw_ild hx hb hK hP (3 + 16 * j + 3) 0 he25 rfl (k := ((2 * (1 + t)) + 1)) (by omega) (by decide) d_Rc_on_79 ?_
      clear he25
      refine ag_topi (fun x26 ex26 => ?_)
      refine lv_iadd hx hb d_Rc_on_80 ?_
      refine ag_topi (fun x27 ex27 => ?_)
      refine lv_istore hx hb d_Rc_on_81 hl (by decide) rfl (fun ls hl => ?_)
      have hl : lv_has ls 6 [(4, .int x27), (3, .int x21), (0, .ref (aw_c ad j 2)), (1, .long b), (5, .int (nI (1 + t)))] := hl
      refine lv_iinc (k := 4) (v := nI (1 + t + 1)) hx hb d_Rc_on_83 hl rfl (aw_inc (1 + t) 1 1 (by decide +kernel)) (by decide) rfl (fun ls hl => ?_)
      have hl : lv_has ls 6 [(5, .int (nI (1 + t + 1))), (4, .int x27), (3, .int x21), (0, .ref (aw_c ad j 2)), (1, .long b)] := hl
      refine lv_goto (tgt := 34) hx hb d_Rc_on_86 (by decide) ?_
      have hl := lv_sub hl (l' := [(0, .ref (aw_c ad j 2)), (1, .long b), (3, .int x21), (4, .int x27), (5, .int (nI (1 + t + 1)))]) [3, 4, 2, 1, 0] rfl
      have g0 : x21 = (v_Rc_onV_L34 zA j b (t + 1)).1 := by subst ex27 ex26 ex23 ex22 ex21 ex20 ex17 ex16 ex12 ex11 ex8 ex7 ex6 ex5 ex2 ex1; (rw [v_Rc_onV_L34_s]) <;> rfl
      have g1 : x27 = (v_Rc_onV_L34 zA j b (t + 1)).2 := by subst ex27 ex26 ex23 ex22 ex21 ex20 ex17 ex16 ex12 ex11 ex8 ex7 ex6 ex5 ex2 ex1; (rw [v_Rc_onV_L34_s]) <;> rfl
      have hl : lv_has ls 6 [(0, .ref (aw_c ad j 2)), (1, .long b), (3, .int ((v_Rc_onV_L34 zA j b (t + 1)).1)), (4, .int ((v_Rc_onV_L34 zA j b (t + 1)).2)), (5, .int (nI (1 + t + 1)))] := by rw [← g0, ← g1]; exact hl
      exact ih (t + 1) H locs L ls (by omega) hP hD hSh hS (by first | exact hl | simpa [Nat.add_assoc, Nat.mul_add, Nat.add_comm] using hl)
  have hl := lv_sub hl (l' := [(0, .ref (aw_c ad j 2)), (1, .long b), (3, .int x6), (4, .int x12), (5, .int (nI 1))]) [3, 4, 2, 1, 0] rfl
  have g0 : x6 = (v_Rc_onV_L34 zA j b 0).1 := by subst ex12 ex11 ex8 ex7 ex6 ex5 ex2 ex1; (rw [v_Rc_onV_L34_z]) <;> rfl
  have g1 : x12 = (v_Rc_onV_L34 zA j b 0).2 := by subst ex12 ex11 ex8 ex7 ex6 ex5 ex2 ex1; (rw [v_Rc_onV_L34_z]) <;> rfl
  have hl : lv_has ls 6 [(0, .ref (aw_c ad j 2)), (1, .long b), (3, .int ((v_Rc_onV_L34 zA j b 0).1)), (4, .int ((v_Rc_onV_L34 zA j b 0).2)), (5, .int (nI 1))] := by rw [← g0, ← g1]; exact hl
  exact L34 12 0 _ _ L ls (by omega) hP hD hSh hS (by first | exact hl | simpa using hl)
noncomputable def v_Rc_backV_L21 (zA : Nat → Nat → Nat → Int32) (j : Nat) (b : Int64) (t : Nat) : Int32 × Int32 := Nat.rec (motive := fun _ => Int32 × Int32) (v_Ru_bytesReversedV (v_Ru_firstHalfV b), v_Ru_bytesReversedV (v_Ru_secondHalfV b)) (fun t s => (((v_Ru_turnRightV ((s.1) - (zA j 3 (2 * (12 - t)))) ((v_Ru_turnRightV ((s.2) - (zA j 3 ((2 * (12 - t)) + 1))) (s.1)) ^^^ (s.1))) ^^^ ((v_Ru_turnRightV ((s.2) - (zA j 3 ((2 * (12 - t)) + 1))) (s.1)) ^^^ (s.1))), ((v_Ru_turnRightV ((s.2) - (zA j 3 ((2 * (12 - t)) + 1))) (s.1)) ^^^ (s.1)))) t
theorem v_Rc_backV_L21_z (zA : Nat → Nat → Nat → Int32) (j : Nat) (b : Int64) : v_Rc_backV_L21 zA j b 0 = (v_Ru_bytesReversedV (v_Ru_firstHalfV b), v_Ru_bytesReversedV (v_Ru_secondHalfV b)) := rfl
theorem v_Rc_backV_L21_s (zA : Nat → Nat → Nat → Int32) (j : Nat) (b : Int64) (t : Nat) : v_Rc_backV_L21 zA j b (t + 1) = (((v_Ru_turnRightV (((v_Rc_backV_L21 zA j b t).1) - (zA j 3 (2 * (12 - t)))) ((v_Ru_turnRightV (((v_Rc_backV_L21 zA j b t).2) - (zA j 3 ((2 * (12 - t)) + 1))) ((v_Rc_backV_L21 zA j b t).1)) ^^^ ((v_Rc_backV_L21 zA j b t).1))) ^^^ ((v_Ru_turnRightV (((v_Rc_backV_L21 zA j b t).2) - (zA j 3 ((2 * (12 - t)) + 1))) ((v_Rc_backV_L21 zA j b t).1)) ^^^ ((v_Rc_backV_L21 zA j b t).1))), ((v_Ru_turnRightV (((v_Rc_backV_L21 zA j b t).2) - (zA j 3 ((2 * (12 - t)) + 1))) ((v_Rc_backV_L21 zA j b t).1)) ^^^ ((v_Rc_backV_L21 zA j b t).1))) := rfl
noncomputable def v_Rc_backV (zA : Nat → Nat → Nat → Int32) (j : Nat) (b : Int64) : Int64 := v_Ru_joinedV (v_Ru_bytesReversedV (((v_Rc_backV_L21 zA j b 12).1) - (zA j 3 0))) (v_Ru_bytesReversedV (((v_Rc_backV_L21 zA j b 12).2) - (zA j 3 1)))
abbrev ws_Rc_backV : List Cond := Cond.code y_Rc_back b_Rc_back 6 (some .long) :: aw_G
abbrev rm_Rc_backV : Room := { frames := 1, cells := 0, slots := 0, locals := 21 }
set_option maxHeartbeats 4000000 in
set_option maxRecDepth 100000 in
theorem k_Rc_backV (l : Launch) (D : va_G) (g : Nat → ClassId) (ad : Nat → Nat) (N0 : Nat) (zG : Nat → Nat × Nat) (zO : Nat → Nat) (zX : Nat → Nat → Int64) (zY : Nat → Nat → Int32) (zA : Nat → Nat → Nat → Int32) (zB : Nat → Int32) (zM : Nat → Nat × Nat) (zI : Nat → Nat → Int32) (zL : Nat → Nat → Int64) (zK : Int32) (zN : Nat) (zF : Int32) (zQ : Int64) (j : Nat) (b : Int64) (hj : j < 4) : Met l y_Rc_back ws_Rc_backV rm_Rc_backV (va_Pc ([.ref (aw_c ad j 2), .long b] : List Value) (ag_B D g N0 (az_Sh g ad zG zO zX zY zA zB zM zI zL zK zN zF zQ))) (va_Ql (fun r (_ : Unit) => r = v_Rc_backV zA j b) (fun (_ : Unit) t => ag_H D N0 (az_Sh g ad zG zO zX zY zA zB zM zI zL zK zN zF zQ) t.heap) (aw_Z N0)) 0 0 (aw_Z N0) := by
  refine Met.ofW (cc := b_Rc_back) (maxL := 6) (ret := (some .long)) (by decide) rfl ?_
  intro p e s m args below meth c s₁ B hml hv
  obtain ⟨rfl, ⟨L, hP, hD, hSh⟩, hU⟩ := hv
  have hx := B.exec
  have hb := B.bytes
  have hr := B.returns
  have hG : ∀ w ∈ aw_G, w.before _ s = true := fun w h => atoms_spec (ws := ws_Rc_backV) B.pre w (List.mem_cons_of_mem _ h)
  have hown : s.vm.findClass "RuleCiphers$Rc5" = some m.cls := findClass_of_methodNamed B.named
  have hlocks := B.notSynchronized
  have hE := hU.1
  have hK := hE.1
  have hN := hE.2.1
  have hS : va_S (aw_Z N0) s.heap s.heap [] := va_S.rf
  have hl := lv_entry ([.ref (aw_c ad j 2), .long b] : List Value) (n := 6) (Nat.le_of_ble_eq_true rfl)
  rw [lg_entry_eq]
  generalize (lg_sl ([.ref (aw_c ad j 2), .long b] : List Value) ++ List.replicate (6 - (lg_sl ([.ref (aw_c ad j 2), .long b] : List Value)).length) Slot.unset).toArray = ls at hl ⊢
  have hl : lv_has ls 6 [(0, .ref (aw_c ad j 2)), (1, .long b)] := hl
  refine lv_lload_n hx hb d_Rc_back_0 rfl (lv_at hl 1 rfl) ?_
  refine aw_ci ((va_runSN (As := [.long b]) (rest := []) ⟨hx, hb, hml, hown, hG⟩ (k_Ru_firstHalfV l b) (aw_wSN 1 hG hN gw_4_52 nw_22 gw_0_1 gw_4_51 rfl rfl hd_Ru_firstHalf ⟨Nat.le_of_ble_eq_true rfl, Nat.le_of_ble_eq_true rfl⟩) aw_p0 rfl rfl hl.1 rfl (lv_room (Nat.le_of_ble_eq_true rfl)) d_Rc_back_1 ⟨Nat.le_of_ble_eq_true rfl, Nat.le_of_ble_eq_true rfl⟩).run) (fun x1 ex1 => ?_)
  have ex1 := ex1.symm
  refine aw_ci ((va_runSN (As := [.int x1]) (rest := []) ⟨hx, hb, hml, hown, hG⟩ (k_Ru_bytesReversedV l x1) (aw_wSN 1 hG hN gw_4_57 nw_13 gw_0_1 gw_4_56 rfl rfl hd_Ru_bytesReversed ⟨Nat.le_of_ble_eq_true rfl, Nat.le_of_ble_eq_true rfl⟩) aw_p0 rfl rfl hl.1 rfl (lv_room (Nat.le_of_ble_eq_true rfl)) d_Rc_back_4 ⟨Nat.le_of_ble_eq_true rfl, Nat.le_of_ble_eq_true rfl⟩).run) (fun x2 ex2 => ?_)
  have ex2 := ex2.symm
  refine lv_istore_n hx hb d_Rc_back_7 rfl hl (by decide) rfl (fun ls hl => ?_)
  have hl : lv_has ls 6 [(3, .int x2), (0, .ref (aw_c ad j 2)), (1, .long b)] := hl
  refine lv_lload_n hx hb d_Rc_back_8 rfl (lv_at hl 2 rfl) ?_
  refine aw_ci ((va_runSN (As := [.long b]) (rest := []) ⟨hx, hb, hml, hown, hG⟩ (k_Ru_secondHalfV l b) (aw_wSN 1 hG hN gw_4_55 nw_23 gw_0_1 gw_4_54 rfl rfl hd_Ru_secondHalf ⟨Nat.le_of_ble_eq_true rfl, Nat.le_of_ble_eq_true rfl⟩) aw_p0 rfl rfl hl.1 rfl (lv_room (Nat.le_of_ble_eq_true rfl)) d_Rc_back_9 ⟨Nat.le_of_ble_eq_true rfl, Nat.le_of_ble_eq_true rfl⟩).run) (fun x3 ex3 => ?_)
  have ex3 := ex3.symm
  refine aw_ci ((va_runSN (As := [.int x3]) (rest := []) ⟨hx, hb, hml, hown, hG⟩ (k_Ru_bytesReversedV l x3) (aw_wSN 1 hG hN gw_4_57 nw_13 gw_0_1 gw_4_56 rfl rfl hd_Ru_bytesReversed ⟨Nat.le_of_ble_eq_true rfl, Nat.le_of_ble_eq_true rfl⟩) aw_p0 rfl rfl hl.1 rfl (lv_room (Nat.le_of_ble_eq_true rfl)) d_Rc_back_12 ⟨Nat.le_of_ble_eq_true rfl, Nat.le_of_ble_eq_true rfl⟩).run) (fun x4 ex4 => ?_)
  have ex4 := ex4.symm
  refine lv_istore hx hb d_Rc_back_15 hl (by decide) rfl (fun ls hl => ?_)
  have hl : lv_has ls 6 [(4, .int x4), (3, .int x2), (0, .ref (aw_c ad j 2)), (1, .long b)] := hl
  refine lv_bipush (v := nI 12) hx hb d_Rc_back_17 (by decide +kernel) ?_
  refine lv_istore hx hb d_Rc_back_19 hl (by decide) rfl (fun ls hl => ?_)
  have hl : lv_has ls 6 [(5, .int (nI 12)), (4, .int x4), (3, .int x2), (0, .ref (aw_c ad j 2)), (1, .long b)] := hl
  have L21 : ∀ (d t : Nat) (H : Heap) (locs : List Loc) (L : va_W) (ls : Array Slot), t + d = 12 → va_P D aw_C L H → va_D (aw_Z N0) L → az_Sh g ad zG zO zX zY zA zB zM zI zL zK zN zF zQ L → va_S (aw_Z N0) s.heap H locs → lv_has ls 6 [(0, .ref (aw_c ad j 2)), (1, .long b), (3, .int ((v_Rc_backV_L21 zA j b t).1)), (4, .int ((v_Rc_backV_L21 zA j b t).2)), (5, .int (nI (12 - t)))] → W p l e (headSpec ws_Rc_backV rm_Rc_backV).room s m ([.ref (aw_c ad j 2), .long b] : List Value).toArray below meth c H locs 0 0 (MQ below (va_Ql (fun r (_ : Unit) => r = v_Rc_backV zA j b) (fun (_ : Unit) t => ag_H D N0 (az_Sh g ad zG zO zX zY zA zB zM zI zL zK zN zF zQ) t.heap) (aw_Z N0)) ([.ref (aw_c ad j 2), .long b] : List Value).toArray s 0 0 (aw_Z N0)) (F0 m 21 ls []) := by
    clear hl hP hD hSh hS
    intro d
    induction d with
    | zero =>
      intro t H locs L ls ht0 hP hD hSh hS hl
      have ht1 : t = 12 := by omega
      subst ht1
      have hl : lv_has ls 6 [(0, .ref (aw_c ad j 2)), (1, .long b), (3, .int ((v_Rc_backV_L21 zA j b 12).1)), (4, .int ((v_Rc_backV_L21 zA j b 12).2)), (5, .int (nI (12 - 12)))] := hl
      refine lv_iload hx hb d_Rc_back_21 (lv_at hl 4 rfl) ?_
      refine lv_iconst (v := nI 1) hx hb d_Rc_back_23 (by decide +kernel) ?_
      refine lv_icmp_lt (tgt := 75) hx hb d_Rc_back_24 (by decide) (fun _ => ?_) (fun h => absurd (show nI (12 - 12) < nI 1 from (nI_ltI (by omega) (by omega)).mpr (by omega)) h)
      refine lv_iload_n hx hb d_Rc_back_75 rfl (lv_at hl 2 rfl) ?_
      refine lv_aload_n hx hb d_Rc_back_76 rfl (lv_at hl 0 rfl) ?_
      have he5 := zr_C2 hSh hj
      refine va_get (C := R_Rc) (T := T_Rc) (N := 2) (v := .ref (aw_c ad j 3)) hx hb hG in_Rc hown hK hP (3 + 16 * j + 2) he5 rfl 0 (by decide) (hG _ gw_0_50) (fun x9 h9 => u_same (hG _ gw_0_51) x9 h9) rfl d_Rc_back_77 ?_
      clear he5
      refine lv_iconst (v := nI 0) hx hb d_Rc_back_80 (by decide +kernel) ?_
      have he6 := zr_C3 hSh hj
      refine aw_ild hx hb hK hP (3 + 16 * j + 3) 0 he6 rfl (k := 0) (by omega) (by decide) d_Rc_back_81 ?_
      clear he6
      refine ag_topi (fun x7 ex7 => ?_)
      refine lv_isub hx hb d_Rc_back_82 ?_
      refine ag_topi (fun x8 ex8 => ?_)
      refine aw_ci ((va_runSN (As := [.int x8]) (rest := []) ⟨hx, hb, hml, hown, hG⟩ (k_Ru_bytesReversedV l x8) (aw_wSN 1 hG hN gw_4_57 nw_13 gw_0_1 gw_4_56 rfl rfl hd_Ru_bytesReversed ⟨Nat.le_of_ble_eq_true rfl, Nat.le_of_ble_eq_true rfl⟩) aw_p0 rfl rfl hl.1 rfl (lv_room (Nat.le_of_ble_eq_true rfl)) d_Rc_back_83 ⟨Nat.le_of_ble_eq_true rfl, Nat.le_of_ble_eq_true rfl⟩).run) (fun x9 ex9 => ?_)
      have ex9 := ex9.symm
      refine lv_iload hx hb d_Rc_back_86 (lv_at hl 3 rfl) ?_
      refine lv_aload_n hx hb d_Rc_back_88 rfl (lv_at hl 0 rfl) ?_
      have he10 := zr_C2 hSh hj
      refine va_get (C := R_Rc) (T := T_Rc) (N := 2) (v := .ref (aw_c ad j 3)) hx hb hG in_Rc hown hK hP (3 + 16 * j + 2) he10 rfl 0 (by decide) (hG _ gw_0_50) (fun x9 h9 => u_same (hG _ gw_0_51) x9 h9) rfl d_Rc_back_89 ?_
      clear he10
      refine lv_iconst (v := nI 1) hx hb d_Rc_back_92 (by decide +kernel) ?_
      have he11 := zr_C3 hSh hj
      refine aw_ild hx hb hK hP (3 + 16 * j + 3) 0 he11 rfl (k := 1) (by omega) (by decide) d_Rc_back_93 ?_
      clear he11
      refine ag_topi (fun x12 ex12 => ?_)
      refine lv_isub hx hb d_Rc_back_94 ?_
      refine ag_topi (fun x13 ex13 => ?_)
      refine aw_ci ((va_runSN (As := [.int x13]) (rest := [.int x9]) ⟨hx, hb, hml, hown, hG⟩ (k_Ru_bytesReversedV l x13) (aw_wSN 1 hG hN gw_4_57 nw_13 gw_0_1 gw_4_56 rfl rfl hd_Ru_bytesReversed ⟨Nat.le_of_ble_eq_true rfl, Nat.le_of_ble_eq_true rfl⟩) aw_p0 rfl rfl hl.1 rfl (lv_room (Nat.le_of_ble_eq_true rfl)) d_Rc_back_95 ⟨Nat.le_of_ble_eq_true rfl, Nat.le_of_ble_eq_true rfl⟩).run) (fun x14 ex14 => ?_)
      have ex14 := ex14.symm
      refine aw_cl ((va_runSN (As := [.int x9, .int x14]) (rest := []) ⟨hx, hb, hml, hown, hG⟩ (k_Ru_joinedV l x9 x14) (aw_wSN 2 hG hN gw_6_31 nw_25 gw_0_1 gw_6_30 rfl rfl hd_Ru_joined ⟨Nat.le_of_ble_eq_true rfl, Nat.le_of_ble_eq_true rfl⟩) aw_p0 rfl rfl hl.1 rfl (lv_room (Nat.le_of_ble_eq_true rfl)) d_Rc_back_98 ⟨Nat.le_of_ble_eq_true rfl, Nat.le_of_ble_eq_true rfl⟩).run) (fun y15 ey15 => ?_)
      have ey15 := ey15.symm
      exact W.lret hx hb hr (fun t ht hW => ⟨⟨_, (), rfl, (by subst ey15 ex14 ex13 ex12 ex9 ex8 ex7 ex4 ex3 ex2 ex1; rfl), ag_Hr ht hP hD hSh⟩, hS.F ht⟩) hS.2.2 d_Rc_back_101
    | succ d ih =>
      intro t H locs L ls ht0 hP hD hSh hS hl
      refine lv_iload hx hb d_Rc_back_21 (lv_at hl 4 rfl) ?_
      refine lv_iconst (v := nI 1) hx hb d_Rc_back_23 (by decide +kernel) ?_
      refine lv_icmp_lt (tgt := 75) hx hb d_Rc_back_24 (by decide) (fun h => absurd h (show ¬ nI (12 - t) < nI 1 from fun h9 => absurd ((nI_ltI (by omega) (by omega)).mp h9) (by omega))) (fun _ => ?_)
      refine lv_iload hx hb d_Rc_back_27 (lv_at hl 3 rfl) ?_
      refine lv_aload_n hx hb d_Rc_back_29 rfl (lv_at hl 0 rfl) ?_
      have he16 := zr_C2 hSh hj
      refine va_get (C := R_Rc) (T := T_Rc) (N := 2) (v := .ref (aw_c ad j 3)) hx hb hG in_Rc hown hK hP (3 + 16 * j + 2) he16 rfl 0 (by decide) (hG _ gw_0_50) (fun x9 h9 => u_same (hG _ gw_0_51) x9 h9) rfl d_Rc_back_30 ?_
      clear he16
      refine lv_iconst (v := nI 2) hx hb d_Rc_back_33 (by decide +kernel) ?_
      refine lv_iload hx hb d_Rc_back_34 (lv_at hl 4 rfl) ?_
      refine lv_imul hx hb d_Rc_back_36 ?_
      refine aw_ti (pk_mul 2 (12 - t)) ?_
      refine lv_iconst (v := nI 1) hx hb d_Rc_back_37 (by decide +kernel) ?_
      refine lv_iadd hx hb d_Rc_back_38 ?_
      refine aw_ti (nI_add (2 * (12 - t)) 1) ?_
      have he17 := zr_C3 hSh hj
      refine aw_ild hx hb hK hP (3 + 16 * j + 3) 0 he17 rfl (k := ((2 * (12 - t)) + 1)) (by omega) (by decide) d_Rc_back_39 ?_
      clear he17
      refine ag_topi (fun x18 ex18 => ?_)
      refine lv_isub hx hb d_Rc_back_40 ?_
      refine ag_topi (fun x19 ex19 => ?_)
      refine lv_iload_n hx hb d_Rc_back_41 rfl (lv_at hl 2 rfl) ?_
      refine aw_ci ((va_runSN (As := [.int x19, .int ((v_Rc_backV_L21 zA j b t).1)]) (rest := []) ⟨hx, hb, hml, hown, hG⟩ (k_Ru_turnRightV l x19 ((v_Rc_backV_L21 zA j b t).1)) (aw_wSN 2 hG hN gw_5_10 nw_24 gw_0_1 gw_5_9 rfl rfl hd_Ru_turnRight ⟨Nat.le_of_ble_eq_true rfl, Nat.le_of_ble_eq_true rfl⟩) aw_p0 rfl rfl hl.1 rfl (lv_room (Nat.le_of_ble_eq_true rfl)) d_Rc_back_42 ⟨Nat.le_of_ble_eq_true rfl, Nat.le_of_ble_eq_true rfl⟩).run) (fun x20 ex20 => ?_)
      have ex20 := ex20.symm
      refine lv_iload_n hx hb d_Rc_back_45 rfl (lv_at hl 2 rfl) ?_
      refine lv_ixor hx hb d_Rc_back_46 ?_
      refine ag_topi (fun x21 ex21 => ?_)
      refine lv_istore hx hb d_Rc_back_47 hl (by decide) rfl (fun ls hl => ?_)
      have hl : lv_has ls 6 [(4, .int x21), (0, .ref (aw_c ad j 2)), (1, .long b), (3, .int ((v_Rc_backV_L21 zA j b t).1)), (5, .int (nI (12 - t)))] := hl
      refine lv_iload_n hx hb d_Rc_back_49 rfl (lv_at hl 3 rfl) ?_
      refine lv_aload_n hx hb d_Rc_back_50 rfl (lv_at hl 1 rfl) ?_
      have he22 := zr_C2 hSh hj
      refine va_get (C := R_Rc) (T := T_Rc) (N := 2) (v := .ref (aw_c ad j 3)) hx hb hG in_Rc hown hK hP (3 + 16 * j + 2) he22 rfl 0 (by decide) (hG _ gw_0_50) (fun x9 h9 => u_same (hG _ gw_0_51) x9 h9) rfl d_Rc_back_51 ?_
      clear he22
      refine lv_iconst (v := nI 2) hx hb d_Rc_back_54 (by decide +kernel) ?_
      refine lv_iload hx hb d_Rc_back_55 (lv_at hl 4 rfl) ?_
      refine lv_imul hx hb d_Rc_back_57 ?_
      refine aw_ti (pk_mul 2 (12 - t)) ?_
      have he23 := zr_C3 hSh hj
      refine aw_ild hx hb hK hP (3 + 16 * j + 3) 0 he23 rfl (k := (2 * (12 - t))) (by omega) (by decide) d_Rc_back_58 ?_
      clear he23
      refine ag_topi (fun x24 ex24 => ?_)
      refine lv_isub hx hb d_Rc_back_59 ?_
      refine ag_topi (fun x25 ex25 => ?_)
      refine lv_iload hx hb d_Rc_back_60 (lv_at hl 0 rfl) ?_
      refine aw_ci ((va_runSN (As := [.int x25, .int x21]) (rest := []) ⟨hx, hb, hml, hown, hG⟩ (k_Ru_turnRightV l x25 x21) (aw_wSN 2 hG hN gw_5_10 nw_24 gw_0_1 gw_5_9 rfl rfl hd_Ru_turnRight ⟨Nat.le_of_ble_eq_true rfl, Nat.le_of_ble_eq_true rfl⟩) aw_p0 rfl rfl hl.1 rfl (lv_room (Nat.le_of_ble_eq_true rfl)) d_Rc_back_62 ⟨Nat.le_of_ble_eq_true rfl, Nat.le_of_ble_eq_true rfl⟩).run) (fun x26 ex26 => ?_)
      have ex26 := ex26.symm
      refine lv_iload hx hb d_Rc_back_65 (lv_at hl 0 rfl) ?_
      refine lv_ixor hx hb d_Rc_back_67 ?_
      refine ag_topi (fun x27 ex27 => ?_)
      refine lv_istore_n hx hb d_Rc_back_68 rfl hl (by decide) rfl (fun ls hl => ?_)
      have hl : lv_has ls 6 [(3, .int x27), (4, .int x21), (0, .ref (aw_c ad j 2)), (1, .long b), (5, .int (nI (12 - t)))] := hl
      refine lv_iinc (k := 4) (v := nI (12 - (t + 1))) hx hb d_Rc_back_69 hl rfl (aw_decT 12 t (by omega)) (by decide) rfl (fun ls hl => ?_)
      have hl : lv_has ls 6 [(5, .int (nI (12 - (t + 1)))), (3, .int x27), (4, .int x21), (0, .ref (aw_c ad j 2)), (1, .long b)] := hl
      refine lv_goto (tgt := 21) hx hb d_Rc_back_72 (by decide) ?_
      have hl := lv_sub hl (l' := [(0, .ref (aw_c ad j 2)), (1, .long b), (3, .int x27), (4, .int x21), (5, .int (nI (12 - (t + 1))))]) [3, 4, 1, 2, 0] rfl
      have g0 : x27 = (v_Rc_backV_L21 zA j b (t + 1)).1 := by subst ex27 ex26 ex25 ex24 ex21 ex20 ex19 ex18 ex4 ex3 ex2 ex1; (rw [v_Rc_backV_L21_s]) <;> rfl
      have g1 : x21 = (v_Rc_backV_L21 zA j b (t + 1)).2 := by subst ex27 ex26 ex25 ex24 ex21 ex20 ex19 ex18 ex4 ex3 ex2 ex1; (rw [v_Rc_backV_L21_s]) <;> rfl
      have hl : lv_has ls 6 [(0, .ref (aw_c ad j 2)), (1, .long b), (3, .int ((v_Rc_backV_L21 zA j b (t + 1)).1)), (4, .int ((v_Rc_backV_L21 zA j b (t + 1)).2)), (5, .int (nI (12 - (t + 1))))] := by rw [← g0, ← g1]; exact hl
      exact ih (t + 1) H locs L ls (by omega) hP hD hSh hS (by first | exact hl | simpa [Nat.add_assoc, Nat.mul_add, Nat.add_comm] using hl)
  have hl := lv_sub hl (l' := [(0, .ref (aw_c ad j 2)), (1, .long b), (3, .int x2), (4, .int x4), (5, .int (nI 12))]) [3, 4, 2, 1, 0] rfl
  have g0 : x2 = (v_Rc_backV_L21 zA j b 0).1 := by subst ex4 ex3 ex2 ex1; (rw [v_Rc_backV_L21_z]) <;> rfl
  have g1 : x4 = (v_Rc_backV_L21 zA j b 0).2 := by subst ex4 ex3 ex2 ex1; (rw [v_Rc_backV_L21_z]) <;> rfl
  have hl : lv_has ls 6 [(0, .ref (aw_c ad j 2)), (1, .long b), (3, .int ((v_Rc_backV_L21 zA j b 0).1)), (4, .int ((v_Rc_backV_L21 zA j b 0).2)), (5, .int (nI 12))] := by rw [← g0, ← g1]; exact hl
  exact L21 12 0 _ _ L ls (by omega) hP hD hSh hS (by first | exact hl | simpa using hl)
noncomputable def v_Xt_onV_L17 (zA : Nat → Nat → Nat → Int32) (j : Nat) (b : Int64) (t : Nat) : Int32 × Int32 × Int32 := Nat.rec (motive := fun _ => Int32 × Int32 × Int32) (v_Ru_firstHalfV b, v_Ru_secondHalfV b, nI 0) (fun t s => (((s.1) + ((v_Xt_stirredV (s.2.1)) ^^^ ((s.2.2) + (zA j 6 (((s.2.2) &&& nI 3).toNatClampNeg))))), ((s.2.1) + ((v_Xt_stirredV ((s.1) + ((v_Xt_stirredV (s.2.1)) ^^^ ((s.2.2) + (zA j 6 (((s.2.2) &&& nI 3).toNatClampNeg)))))) ^^^ (((s.2.2) - 1640531527) + (zA j 6 (((jI_ushr ((s.2.2) - 1640531527) (nI 11)) &&& nI 3).toNatClampNeg))))), ((s.2.2) - 1640531527))) t
theorem v_Xt_onV_L17_z (zA : Nat → Nat → Nat → Int32) (j : Nat) (b : Int64) : v_Xt_onV_L17 zA j b 0 = (v_Ru_firstHalfV b, v_Ru_secondHalfV b, nI 0) := rfl
theorem v_Xt_onV_L17_s (zA : Nat → Nat → Nat → Int32) (j : Nat) (b : Int64) (t : Nat) : v_Xt_onV_L17 zA j b (t + 1) = ((((v_Xt_onV_L17 zA j b t).1) + ((v_Xt_stirredV ((v_Xt_onV_L17 zA j b t).2.1)) ^^^ (((v_Xt_onV_L17 zA j b t).2.2) + (zA j 6 ((((v_Xt_onV_L17 zA j b t).2.2) &&& nI 3).toNatClampNeg))))), (((v_Xt_onV_L17 zA j b t).2.1) + ((v_Xt_stirredV (((v_Xt_onV_L17 zA j b t).1) + ((v_Xt_stirredV ((v_Xt_onV_L17 zA j b t).2.1)) ^^^ (((v_Xt_onV_L17 zA j b t).2.2) + (zA j 6 ((((v_Xt_onV_L17 zA j b t).2.2) &&& nI 3).toNatClampNeg)))))) ^^^ ((((v_Xt_onV_L17 zA j b t).2.2) - 1640531527) + (zA j 6 (((jI_ushr (((v_Xt_onV_L17 zA j b t).2.2) - 1640531527) (nI 11)) &&& nI 3).toNatClampNeg))))), (((v_Xt_onV_L17 zA j b t).2.2) - 1640531527)) := rfl
noncomputable def v_Xt_onV (zA : Nat → Nat → Nat → Int32) (j : Nat) (b : Int64) : Int64 := v_Ru_joinedV ((v_Xt_onV_L17 zA j b 32).1) ((v_Xt_onV_L17 zA j b 32).2.1)
abbrev ws_Xt_onV : List Cond := Cond.code y_Xt_on b_Xt_on 7 (some .long) :: aw_G
abbrev rm_Xt_onV : Room := { frames := 1, cells := 0, slots := 0, locals := 21 }
set_option maxHeartbeats 4000000 in
set_option maxRecDepth 100000 in
theorem k_Xt_onV (l : Launch) (D : va_G) (g : Nat → ClassId) (ad : Nat → Nat) (N0 : Nat) (zG : Nat → Nat × Nat) (zO : Nat → Nat) (zX : Nat → Nat → Int64) (zY : Nat → Nat → Int32) (zA : Nat → Nat → Nat → Int32) (zB : Nat → Int32) (zM : Nat → Nat × Nat) (zI : Nat → Nat → Int32) (zL : Nat → Nat → Int64) (zK : Int32) (zN : Nat) (zF : Int32) (zQ : Int64) (j : Nat) (b : Int64) (hj : j < 4) : Met l y_Xt_on ws_Xt_onV rm_Xt_onV (va_Pc ([.ref (aw_c ad j 5), .long b] : List Value) (ag_B D g N0 (az_Sh g ad zG zO zX zY zA zB zM zI zL zK zN zF zQ))) (va_Ql (fun r (_ : Unit) => r = v_Xt_onV zA j b) (fun (_ : Unit) t => ag_H D N0 (az_Sh g ad zG zO zX zY zA zB zM zI zL zK zN zF zQ) t.heap) (aw_Z N0)) 0 0 (aw_Z N0) := by
  refine Met.ofW (cc := b_Xt_on) (maxL := 7) (ret := (some .long)) (by decide) rfl ?_
  intro p e s m args below meth c s₁ B hml hv
  obtain ⟨rfl, ⟨L, hP, hD, hSh⟩, hU⟩ := hv
  have hx := B.exec
  have hb := B.bytes
  have hr := B.returns
  have hG : ∀ w ∈ aw_G, w.before _ s = true := fun w h => atoms_spec (ws := ws_Xt_onV) B.pre w (List.mem_cons_of_mem _ h)
  have hown : s.vm.findClass "RuleCiphers$Xtea" = some m.cls := findClass_of_methodNamed B.named
  have hlocks := B.notSynchronized
  have hE := hU.1
  have hK := hE.1
  have hN := hE.2.1
  have hS : va_S (aw_Z N0) s.heap s.heap [] := va_S.rf
  have hl := lv_entry ([.ref (aw_c ad j 5), .long b] : List Value) (n := 7) (Nat.le_of_ble_eq_true rfl)
  rw [lg_entry_eq]
  generalize (lg_sl ([.ref (aw_c ad j 5), .long b] : List Value) ++ List.replicate (7 - (lg_sl ([.ref (aw_c ad j 5), .long b] : List Value)).length) Slot.unset).toArray = ls at hl ⊢
  have hl : lv_has ls 7 [(0, .ref (aw_c ad j 5)), (1, .long b)] := hl
  refine lv_lload_n hx hb d_Xt_on_0 rfl (lv_at hl 1 rfl) ?_
  refine aw_ci ((va_runSN (As := [.long b]) (rest := []) ⟨hx, hb, hml, hown, hG⟩ (k_Ru_firstHalfV l b) (aw_wSN 1 hG hN gw_4_52 nw_33 gw_0_1 gw_4_51 rfl rfl hd_Ru_firstHalf ⟨Nat.le_of_ble_eq_true rfl, Nat.le_of_ble_eq_true rfl⟩) aw_p0 rfl rfl hl.1 rfl (lv_room (Nat.le_of_ble_eq_true rfl)) d_Xt_on_1 ⟨Nat.le_of_ble_eq_true rfl, Nat.le_of_ble_eq_true rfl⟩).run) (fun x1 ex1 => ?_)
  have ex1 := ex1.symm
  refine lv_istore_n hx hb d_Xt_on_4 rfl hl (by decide) rfl (fun ls hl => ?_)
  have hl : lv_has ls 7 [(3, .int x1), (0, .ref (aw_c ad j 5)), (1, .long b)] := hl
  refine lv_lload_n hx hb d_Xt_on_5 rfl (lv_at hl 2 rfl) ?_
  refine aw_ci ((va_runSN (As := [.long b]) (rest := []) ⟨hx, hb, hml, hown, hG⟩ (k_Ru_secondHalfV l b) (aw_wSN 1 hG hN gw_4_55 nw_34 gw_0_1 gw_4_54 rfl rfl hd_Ru_secondHalf ⟨Nat.le_of_ble_eq_true rfl, Nat.le_of_ble_eq_true rfl⟩) aw_p0 rfl rfl hl.1 rfl (lv_room (Nat.le_of_ble_eq_true rfl)) d_Xt_on_6 ⟨Nat.le_of_ble_eq_true rfl, Nat.le_of_ble_eq_true rfl⟩).run) (fun x2 ex2 => ?_)
  have ex2 := ex2.symm
  refine lv_istore hx hb d_Xt_on_9 hl (by decide) rfl (fun ls hl => ?_)
  have hl : lv_has ls 7 [(4, .int x2), (3, .int x1), (0, .ref (aw_c ad j 5)), (1, .long b)] := hl
  refine lv_iconst (v := nI 0) hx hb d_Xt_on_11 (by decide +kernel) ?_
  refine lv_istore hx hb d_Xt_on_12 hl (by decide) rfl (fun ls hl => ?_)
  have hl : lv_has ls 7 [(5, .int (nI 0)), (4, .int x2), (3, .int x1), (0, .ref (aw_c ad j 5)), (1, .long b)] := hl
  refine lv_iconst (v := nI 0) hx hb d_Xt_on_14 (by decide +kernel) ?_
  refine lv_istore hx hb d_Xt_on_15 hl (by decide) rfl (fun ls hl => ?_)
  have hl : lv_has ls 7 [(6, .int (nI 0)), (5, .int (nI 0)), (4, .int x2), (3, .int x1), (0, .ref (aw_c ad j 5)), (1, .long b)] := hl
  have L17 : ∀ (d t : Nat) (H : Heap) (locs : List Loc) (L : va_W) (ls : Array Slot), t + d = 32 → va_P D aw_C L H → va_D (aw_Z N0) L → az_Sh g ad zG zO zX zY zA zB zM zI zL zK zN zF zQ L → va_S (aw_Z N0) s.heap H locs → lv_has ls 7 [(0, .ref (aw_c ad j 5)), (1, .long b), (3, .int ((v_Xt_onV_L17 zA j b t).1)), (4, .int ((v_Xt_onV_L17 zA j b t).2.1)), (5, .int ((v_Xt_onV_L17 zA j b t).2.2)), (6, .int (nI t))] → W p l e (headSpec ws_Xt_onV rm_Xt_onV).room s m ([.ref (aw_c ad j 5), .long b] : List Value).toArray below meth c H locs 0 0 (MQ below (va_Ql (fun r (_ : Unit) => r = v_Xt_onV zA j b) (fun (_ : Unit) t => ag_H D N0 (az_Sh g ad zG zO zX zY zA zB zM zI zL zK zN zF zQ) t.heap) (aw_Z N0)) ([.ref (aw_c ad j 5), .long b] : List Value).toArray s 0 0 (aw_Z N0)) (F0 m 17 ls []) := by
    clear hl hP hD hSh hS
    intro d
    induction d with
    | zero =>
      intro t H locs L ls ht0 hP hD hSh hS hl
      have ht1 : t = 32 := by omega
      subst ht1
      refine lv_iload hx hb d_Xt_on_17 (lv_at hl 5 rfl) ?_
      refine lv_bipush (v := nI 32) hx hb d_Xt_on_19 (by decide +kernel) ?_
      refine lv_icmp_ge (tgt := 83) hx hb d_Xt_on_21 (by decide) (fun _ => ?_) (fun h => absurd (show nI 32 ≤ nI 32 from (nI_leI (by omega) (by omega)).mpr (by omega)) h)
      refine lv_iload_n hx hb d_Xt_on_83 rfl (lv_at hl 2 rfl) ?_
      refine lv_iload hx hb d_Xt_on_84 (lv_at hl 3 rfl) ?_
      refine aw_cl ((va_runSN (As := [.int ((v_Xt_onV_L17 zA j b 32).1), .int ((v_Xt_onV_L17 zA j b 32).2.1)]) (rest := []) ⟨hx, hb, hml, hown, hG⟩ (k_Ru_joinedV l ((v_Xt_onV_L17 zA j b 32).1) ((v_Xt_onV_L17 zA j b 32).2.1)) (aw_wSN 2 hG hN gw_6_31 nw_35 gw_0_1 gw_6_30 rfl rfl hd_Ru_joined ⟨Nat.le_of_ble_eq_true rfl, Nat.le_of_ble_eq_true rfl⟩) aw_p0 rfl rfl hl.1 rfl (lv_room (Nat.le_of_ble_eq_true rfl)) d_Xt_on_86 ⟨Nat.le_of_ble_eq_true rfl, Nat.le_of_ble_eq_true rfl⟩).run) (fun y3 ey3 => ?_)
      have ey3 := ey3.symm
      exact W.lret hx hb hr (fun t ht hW => ⟨⟨_, (), rfl, (by subst ey3 ex2 ex1; rfl), ag_Hr ht hP hD hSh⟩, hS.F ht⟩) hS.2.2 d_Xt_on_89
    | succ d ih =>
      intro t H locs L ls ht0 hP hD hSh hS hl
      refine lv_iload hx hb d_Xt_on_17 (lv_at hl 5 rfl) ?_
      refine lv_bipush (v := nI 32) hx hb d_Xt_on_19 (by decide +kernel) ?_
      refine lv_icmp_ge (tgt := 83) hx hb d_Xt_on_21 (by decide) (fun h => absurd h (show ¬ nI 32 ≤ nI t from fun h9 => absurd ((nI_leI (by omega) (by omega)).mp h9) (by omega))) (fun _ => ?_)
      refine lv_iload_n hx hb d_Xt_on_24 rfl (lv_at hl 2 rfl) ?_
      refine lv_iload hx hb d_Xt_on_25 (lv_at hl 3 rfl) ?_
      refine aw_ci ((va_runS (As := [.int ((v_Xt_onV_L17 zA j b t).2.1)]) (rest := [.int ((v_Xt_onV_L17 zA j b t).1)]) ⟨hx, hb, hml, hown, hG⟩ (k_Xt_stirredV l ((v_Xt_onV_L17 zA j b t).2.1)) (aw_wS 1 hG gw_6_48 gw_6_46 gw_0_5 gw_6_47 rfl rfl hd_Xt_stirred ⟨Nat.le_of_ble_eq_true rfl, Nat.le_of_ble_eq_true rfl⟩) aw_p0 rfl rfl hl.1 rfl (lv_room (Nat.le_of_ble_eq_true rfl)) d_Xt_on_27 ⟨Nat.le_of_ble_eq_true rfl, Nat.le_of_ble_eq_true rfl⟩).run) (fun x4 ex4 => ?_)
      have ex4 := ex4.symm
      refine lv_iload hx hb d_Xt_on_30 (lv_at hl 4 rfl) ?_
      refine lv_aload_n hx hb d_Xt_on_32 rfl (lv_at hl 0 rfl) ?_
      have he5 := zr_C5 hSh hj
      refine va_get (C := R_Xt) (T := T_Xt) (N := 1) (v := .ref (aw_c ad j 6)) hx hb hG in_Xt hown hK hP (3 + 16 * j + 5) he5 rfl 0 (by decide) (hG _ gw_0_44) (fun x9 h9 => u_same (hG _ gw_0_45) x9 h9) rfl d_Xt_on_33 ?_
      clear he5
      refine lv_iload hx hb d_Xt_on_36 (lv_at hl 4 rfl) ?_
      refine lv_iconst (v := nI 3) hx hb d_Xt_on_38 (by decide +kernel) ?_
      refine lv_iand hx hb d_Xt_on_39 ?_
      obtain ⟨k6, hk6, ek6⟩ := pk_andE ((v_Xt_onV_L17 zA j b t).2.2) (m := nI 3) 2 (by decide +kernel)
      have fk6 : (((v_Xt_onV_L17 zA j b t).2.2) &&& nI 3).toNatClampNeg = k6 := by rw [ek6, nI_clamp (by omega)]
      refine aw_ti ek6 ?_
      have he7 := zr_C6 hSh hj
      refine aw_ild hx hb hK hP (3 + 16 * j + 6) 0 he7 rfl (k := k6) (by omega) (by decide) d_Xt_on_40 ?_
      clear he7
      refine ag_topi (fun x8 ex8 => ?_)
      refine lv_iadd hx hb d_Xt_on_41 ?_
      refine ag_topi (fun x9 ex9 => ?_)
      refine lv_ixor hx hb d_Xt_on_42 ?_
      refine ag_topi (fun x10 ex10 => ?_)
      refine lv_iadd hx hb d_Xt_on_43 ?_
      refine ag_topi (fun x11 ex11 => ?_)
      refine lv_istore_n hx hb d_Xt_on_44 rfl hl (by decide) rfl (fun ls hl => ?_)
      have hl : lv_has ls 7 [(3, .int x11), (0, .ref (aw_c ad j 5)), (1, .long b), (4, .int ((v_Xt_onV_L17 zA j b t).2.1)), (5, .int ((v_Xt_onV_L17 zA j b t).2.2)), (6, .int (nI t))] := hl
      refine lv_iload hx hb d_Xt_on_45 (lv_at hl 4 rfl) ?_
      refine lv_ldc (v := 1640531527) hx hb hown (hG _ gw_6_49) d_Xt_on_47 ?_
      refine lv_isub hx hb d_Xt_on_49 ?_
      refine ag_topi (fun x12 ex12 => ?_)
      refine lv_istore hx hb d_Xt_on_50 hl (by decide) rfl (fun ls hl => ?_)
      have hl : lv_has ls 7 [(5, .int x12), (3, .int x11), (0, .ref (aw_c ad j 5)), (1, .long b), (4, .int ((v_Xt_onV_L17 zA j b t).2.1)), (6, .int (nI t))] := hl
      refine lv_iload hx hb d_Xt_on_52 (lv_at hl 4 rfl) ?_
      refine lv_iload_n hx hb d_Xt_on_54 rfl (lv_at hl 1 rfl) ?_
      refine aw_ci ((va_runS (As := [.int x11]) (rest := [.int ((v_Xt_onV_L17 zA j b t).2.1)]) ⟨hx, hb, hml, hown, hG⟩ (k_Xt_stirredV l x11) (aw_wS 1 hG gw_6_48 gw_6_46 gw_0_5 gw_6_47 rfl rfl hd_Xt_stirred ⟨Nat.le_of_ble_eq_true rfl, Nat.le_of_ble_eq_true rfl⟩) aw_p0 rfl rfl hl.1 rfl (lv_room (Nat.le_of_ble_eq_true rfl)) d_Xt_on_55 ⟨Nat.le_of_ble_eq_true rfl, Nat.le_of_ble_eq_true rfl⟩).run) (fun x13 ex13 => ?_)
      have ex13 := ex13.symm
      refine lv_iload hx hb d_Xt_on_58 (lv_at hl 0 rfl) ?_
      refine lv_aload_n hx hb d_Xt_on_60 rfl (lv_at hl 2 rfl) ?_
      have he14 := zr_C5 hSh hj
      refine va_get (C := R_Xt) (T := T_Xt) (N := 1) (v := .ref (aw_c ad j 6)) hx hb hG in_Xt hown hK hP (3 + 16 * j + 5) he14 rfl 0 (by decide) (hG _ gw_0_44) (fun x9 h9 => u_same (hG _ gw_0_45) x9 h9) rfl d_Xt_on_61 ?_
      clear he14
      refine lv_iload hx hb d_Xt_on_64 (lv_at hl 0 rfl) ?_
      refine lv_bipush (v := nI 11) hx hb d_Xt_on_66 (by decide +kernel) ?_
      refine lv_iushr hx hb d_Xt_on_68 rfl ?_
      refine ag_topi (fun x15 ex15 => ?_)
      refine lv_iconst (v := nI 3) hx hb d_Xt_on_69 (by decide +kernel) ?_
      refine lv_iand hx hb d_Xt_on_70 ?_
      obtain ⟨k16, hk16, ek16⟩ := pk_andE x15 (m := nI 3) 2 (by decide +kernel)
      have fk16 : (x15 &&& nI 3).toNatClampNeg = k16 := by rw [ek16, nI_clamp (by omega)]
      refine aw_ti ek16 ?_
      have he17 := zr_C6 hSh hj
      refine aw_ild hx hb hK hP (3 + 16 * j + 6) 0 he17 rfl (k := k16) (by omega) (by decide) d_Xt_on_71 ?_
      clear he17
      refine ag_topi (fun x18 ex18 => ?_)
      refine lv_iadd hx hb d_Xt_on_72 ?_
      refine ag_topi (fun x19 ex19 => ?_)
      refine lv_ixor hx hb d_Xt_on_73 ?_
      refine ag_topi (fun x20 ex20 => ?_)
      refine lv_iadd hx hb d_Xt_on_74 ?_
      refine ag_topi (fun x21 ex21 => ?_)
      refine lv_istore hx hb d_Xt_on_75 hl (by decide) rfl (fun ls hl => ?_)
      have hl : lv_has ls 7 [(4, .int x21), (5, .int x12), (3, .int x11), (0, .ref (aw_c ad j 5)), (1, .long b), (6, .int (nI t))] := hl
      refine lv_iinc (k := 5) (v := nI (t + 1)) hx hb d_Xt_on_77 hl rfl (aw_inc t 1 1 (by decide +kernel)) (by decide) rfl (fun ls hl => ?_)
      have hl : lv_has ls 7 [(6, .int (nI (t + 1))), (4, .int x21), (5, .int x12), (3, .int x11), (0, .ref (aw_c ad j 5)), (1, .long b)] := hl
      refine lv_goto (tgt := 17) hx hb d_Xt_on_80 (by decide) ?_
      have hl := lv_sub hl (l' := [(0, .ref (aw_c ad j 5)), (1, .long b), (3, .int x11), (4, .int x21), (5, .int x12), (6, .int (nI (t + 1)))]) [4, 5, 3, 1, 2, 0] rfl
      have g0 : x11 = (v_Xt_onV_L17 zA j b (t + 1)).1 := by subst ex21 ex20 ex19 ex18 fk16 ex15 ex13 ex12 ex11 ex10 ex9 ex8 fk6 ex4 ex2 ex1; (rw [v_Xt_onV_L17_s]) <;> rfl
      have g1 : x21 = (v_Xt_onV_L17 zA j b (t + 1)).2.1 := by subst ex21 ex20 ex19 ex18 fk16 ex15 ex13 ex12 ex11 ex10 ex9 ex8 fk6 ex4 ex2 ex1; (rw [v_Xt_onV_L17_s]) <;> rfl
      have g2 : x12 = (v_Xt_onV_L17 zA j b (t + 1)).2.2 := by subst ex21 ex20 ex19 ex18 fk16 ex15 ex13 ex12 ex11 ex10 ex9 ex8 fk6 ex4 ex2 ex1; (rw [v_Xt_onV_L17_s]) <;> rfl
      have hl : lv_has ls 7 [(0, .ref (aw_c ad j 5)), (1, .long b), (3, .int ((v_Xt_onV_L17 zA j b (t + 1)).1)), (4, .int ((v_Xt_onV_L17 zA j b (t + 1)).2.1)), (5, .int ((v_Xt_onV_L17 zA j b (t + 1)).2.2)), (6, .int (nI (t + 1)))] := by rw [← g0, ← g1, ← g2]; exact hl
      exact ih (t + 1) H locs L ls (by omega) hP hD hSh hS (by first | exact hl | simpa [Nat.add_assoc, Nat.mul_add, Nat.add_comm] using hl)
  have hl := lv_sub hl (l' := [(0, .ref (aw_c ad j 5)), (1, .long b), (3, .int x1), (4, .int x2), (5, .int (nI 0)), (6, .int (nI 0))]) [4, 5, 3, 2, 1, 0] rfl
  have g0 : x1 = (v_Xt_onV_L17 zA j b 0).1 := by subst ex2 ex1; (rw [v_Xt_onV_L17_z]) <;> rfl
  have g1 : x2 = (v_Xt_onV_L17 zA j b 0).2.1 := by subst ex2 ex1; (rw [v_Xt_onV_L17_z]) <;> rfl
  have g2 : nI 0 = (v_Xt_onV_L17 zA j b 0).2.2 := by subst ex2 ex1; (rw [v_Xt_onV_L17_z]) <;> rfl
  have hl : lv_has ls 7 [(0, .ref (aw_c ad j 5)), (1, .long b), (3, .int ((v_Xt_onV_L17 zA j b 0).1)), (4, .int ((v_Xt_onV_L17 zA j b 0).2.1)), (5, .int ((v_Xt_onV_L17 zA j b 0).2.2)), (6, .int (nI 0))] := by rw [← g0, ← g1]; exact hl
  exact L17 32 0 _ _ L ls (by omega) hP hD hSh hS (by first | exact hl | simpa using hl)
noncomputable def v_Xt_backV_L18 (zA : Nat → Nat → Nat → Int32) (j : Nat) (b : Int64) (t : Nat) : Int32 × Int32 × Int32 := Nat.rec (motive := fun _ => Int32 × Int32 × Int32) (v_Ru_firstHalfV b, v_Ru_secondHalfV b, (-957401312)) (fun t s => (((s.1) - ((v_Xt_stirredV ((s.2.1) - ((v_Xt_stirredV (s.1)) ^^^ ((s.2.2) + (zA j 6 (((jI_ushr (s.2.2) (nI 11)) &&& nI 3).toNatClampNeg)))))) ^^^ (((s.2.2) + 1640531527) + (zA j 6 ((((s.2.2) + 1640531527) &&& nI 3).toNatClampNeg))))), ((s.2.1) - ((v_Xt_stirredV (s.1)) ^^^ ((s.2.2) + (zA j 6 (((jI_ushr (s.2.2) (nI 11)) &&& nI 3).toNatClampNeg))))), ((s.2.2) + 1640531527))) t
theorem v_Xt_backV_L18_z (zA : Nat → Nat → Nat → Int32) (j : Nat) (b : Int64) : v_Xt_backV_L18 zA j b 0 = (v_Ru_firstHalfV b, v_Ru_secondHalfV b, (-957401312)) := rfl
theorem v_Xt_backV_L18_s (zA : Nat → Nat → Nat → Int32) (j : Nat) (b : Int64) (t : Nat) : v_Xt_backV_L18 zA j b (t + 1) = ((((v_Xt_backV_L18 zA j b t).1) - ((v_Xt_stirredV (((v_Xt_backV_L18 zA j b t).2.1) - ((v_Xt_stirredV ((v_Xt_backV_L18 zA j b t).1)) ^^^ (((v_Xt_backV_L18 zA j b t).2.2) + (zA j 6 (((jI_ushr ((v_Xt_backV_L18 zA j b t).2.2) (nI 11)) &&& nI 3).toNatClampNeg)))))) ^^^ ((((v_Xt_backV_L18 zA j b t).2.2) + 1640531527) + (zA j 6 (((((v_Xt_backV_L18 zA j b t).2.2) + 1640531527) &&& nI 3).toNatClampNeg))))), (((v_Xt_backV_L18 zA j b t).2.1) - ((v_Xt_stirredV ((v_Xt_backV_L18 zA j b t).1)) ^^^ (((v_Xt_backV_L18 zA j b t).2.2) + (zA j 6 (((jI_ushr ((v_Xt_backV_L18 zA j b t).2.2) (nI 11)) &&& nI 3).toNatClampNeg))))), (((v_Xt_backV_L18 zA j b t).2.2) + 1640531527)) := rfl
noncomputable def v_Xt_backV (zA : Nat → Nat → Nat → Int32) (j : Nat) (b : Int64) : Int64 := v_Ru_joinedV ((v_Xt_backV_L18 zA j b 32).1) ((v_Xt_backV_L18 zA j b 32).2.1)
abbrev ws_Xt_backV : List Cond := Cond.code y_Xt_back b_Xt_back 7 (some .long) :: aw_G
abbrev rm_Xt_backV : Room := { frames := 1, cells := 0, slots := 0, locals := 21 }
set_option maxHeartbeats 4000000 in
set_option maxRecDepth 100000 in
theorem k_Xt_backV (l : Launch) (D : va_G) (g : Nat → ClassId) (ad : Nat → Nat) (N0 : Nat) (zG : Nat → Nat × Nat) (zO : Nat → Nat) (zX : Nat → Nat → Int64) (zY : Nat → Nat → Int32) (zA : Nat → Nat → Nat → Int32) (zB : Nat → Int32) (zM : Nat → Nat × Nat) (zI : Nat → Nat → Int32) (zL : Nat → Nat → Int64) (zK : Int32) (zN : Nat) (zF : Int32) (zQ : Int64) (j : Nat) (b : Int64) (hj : j < 4) : Met l y_Xt_back ws_Xt_backV rm_Xt_backV (va_Pc ([.ref (aw_c ad j 5), .long b] : List Value) (ag_B D g N0 (az_Sh g ad zG zO zX zY zA zB zM zI zL zK zN zF zQ))) (va_Ql (fun r (_ : Unit) => r = v_Xt_backV zA j b) (fun (_ : Unit) t => ag_H D N0 (az_Sh g ad zG zO zX zY zA zB zM zI zL zK zN zF zQ) t.heap) (aw_Z N0)) 0 0 (aw_Z N0) := by
  refine Met.ofW (cc := b_Xt_back) (maxL := 7) (ret := (some .long)) (by decide) rfl ?_
  intro p e s m args below meth c s₁ B hml hv
  obtain ⟨rfl, ⟨L, hP, hD, hSh⟩, hU⟩ := hv
  have hx := B.exec
  have hb := B.bytes
  have hr := B.returns
  have hG : ∀ w ∈ aw_G, w.before _ s = true := fun w h => atoms_spec (ws := ws_Xt_backV) B.pre w (List.mem_cons_of_mem _ h)
  have hown : s.vm.findClass "RuleCiphers$Xtea" = some m.cls := findClass_of_methodNamed B.named
  have hlocks := B.notSynchronized
  have hE := hU.1
  have hK := hE.1
  have hN := hE.2.1
  have hS : va_S (aw_Z N0) s.heap s.heap [] := va_S.rf
  have hl := lv_entry ([.ref (aw_c ad j 5), .long b] : List Value) (n := 7) (Nat.le_of_ble_eq_true rfl)
  rw [lg_entry_eq]
  generalize (lg_sl ([.ref (aw_c ad j 5), .long b] : List Value) ++ List.replicate (7 - (lg_sl ([.ref (aw_c ad j 5), .long b] : List Value)).length) Slot.unset).toArray = ls at hl ⊢
  have hl : lv_has ls 7 [(0, .ref (aw_c ad j 5)), (1, .long b)] := hl
  refine lv_lload_n hx hb d_Xt_back_0 rfl (lv_at hl 1 rfl) ?_
  refine aw_ci ((va_runSN (As := [.long b]) (rest := []) ⟨hx, hb, hml, hown, hG⟩ (k_Ru_firstHalfV l b) (aw_wSN 1 hG hN gw_4_52 nw_33 gw_0_1 gw_4_51 rfl rfl hd_Ru_firstHalf ⟨Nat.le_of_ble_eq_true rfl, Nat.le_of_ble_eq_true rfl⟩) aw_p0 rfl rfl hl.1 rfl (lv_room (Nat.le_of_ble_eq_true rfl)) d_Xt_back_1 ⟨Nat.le_of_ble_eq_true rfl, Nat.le_of_ble_eq_true rfl⟩).run) (fun x1 ex1 => ?_)
  have ex1 := ex1.symm
  refine lv_istore_n hx hb d_Xt_back_4 rfl hl (by decide) rfl (fun ls hl => ?_)
  have hl : lv_has ls 7 [(3, .int x1), (0, .ref (aw_c ad j 5)), (1, .long b)] := hl
  refine lv_lload_n hx hb d_Xt_back_5 rfl (lv_at hl 2 rfl) ?_
  refine aw_ci ((va_runSN (As := [.long b]) (rest := []) ⟨hx, hb, hml, hown, hG⟩ (k_Ru_secondHalfV l b) (aw_wSN 1 hG hN gw_4_55 nw_34 gw_0_1 gw_4_54 rfl rfl hd_Ru_secondHalf ⟨Nat.le_of_ble_eq_true rfl, Nat.le_of_ble_eq_true rfl⟩) aw_p0 rfl rfl hl.1 rfl (lv_room (Nat.le_of_ble_eq_true rfl)) d_Xt_back_6 ⟨Nat.le_of_ble_eq_true rfl, Nat.le_of_ble_eq_true rfl⟩).run) (fun x2 ex2 => ?_)
  have ex2 := ex2.symm
  refine lv_istore hx hb d_Xt_back_9 hl (by decide) rfl (fun ls hl => ?_)
  have hl : lv_has ls 7 [(4, .int x2), (3, .int x1), (0, .ref (aw_c ad j 5)), (1, .long b)] := hl
  refine lv_ldc (v := (-957401312)) hx hb hown (hG _ gw_6_45) d_Xt_back_11 ?_
  refine lv_istore hx hb d_Xt_back_13 hl (by decide) rfl (fun ls hl => ?_)
  have hl : lv_has ls 7 [(5, .int ((-957401312))), (4, .int x2), (3, .int x1), (0, .ref (aw_c ad j 5)), (1, .long b)] := hl
  refine lv_iconst (v := nI 0) hx hb d_Xt_back_15 (by decide +kernel) ?_
  refine lv_istore hx hb d_Xt_back_16 hl (by decide) rfl (fun ls hl => ?_)
  have hl : lv_has ls 7 [(6, .int (nI 0)), (5, .int ((-957401312))), (4, .int x2), (3, .int x1), (0, .ref (aw_c ad j 5)), (1, .long b)] := hl
  have L18 : ∀ (d t : Nat) (H : Heap) (locs : List Loc) (L : va_W) (ls : Array Slot), t + d = 32 → va_P D aw_C L H → va_D (aw_Z N0) L → az_Sh g ad zG zO zX zY zA zB zM zI zL zK zN zF zQ L → va_S (aw_Z N0) s.heap H locs → lv_has ls 7 [(0, .ref (aw_c ad j 5)), (1, .long b), (3, .int ((v_Xt_backV_L18 zA j b t).1)), (4, .int ((v_Xt_backV_L18 zA j b t).2.1)), (5, .int ((v_Xt_backV_L18 zA j b t).2.2)), (6, .int (nI t))] → W p l e (headSpec ws_Xt_backV rm_Xt_backV).room s m ([.ref (aw_c ad j 5), .long b] : List Value).toArray below meth c H locs 0 0 (MQ below (va_Ql (fun r (_ : Unit) => r = v_Xt_backV zA j b) (fun (_ : Unit) t => ag_H D N0 (az_Sh g ad zG zO zX zY zA zB zM zI zL zK zN zF zQ) t.heap) (aw_Z N0)) ([.ref (aw_c ad j 5), .long b] : List Value).toArray s 0 0 (aw_Z N0)) (F0 m 18 ls []) := by
    clear hl hP hD hSh hS
    intro d
    induction d with
    | zero =>
      intro t H locs L ls ht0 hP hD hSh hS hl
      have ht1 : t = 32 := by omega
      subst ht1
      refine lv_iload hx hb d_Xt_back_18 (lv_at hl 5 rfl) ?_
      refine lv_bipush (v := nI 32) hx hb d_Xt_back_20 (by decide +kernel) ?_
      refine lv_icmp_ge (tgt := 84) hx hb d_Xt_back_22 (by decide) (fun _ => ?_) (fun h => absurd (show nI 32 ≤ nI 32 from (nI_leI (by omega) (by omega)).mpr (by omega)) h)
      refine lv_iload_n hx hb d_Xt_back_84 rfl (lv_at hl 2 rfl) ?_
      refine lv_iload hx hb d_Xt_back_85 (lv_at hl 3 rfl) ?_
      refine aw_cl ((va_runSN (As := [.int ((v_Xt_backV_L18 zA j b 32).1), .int ((v_Xt_backV_L18 zA j b 32).2.1)]) (rest := []) ⟨hx, hb, hml, hown, hG⟩ (k_Ru_joinedV l ((v_Xt_backV_L18 zA j b 32).1) ((v_Xt_backV_L18 zA j b 32).2.1)) (aw_wSN 2 hG hN gw_6_31 nw_35 gw_0_1 gw_6_30 rfl rfl hd_Ru_joined ⟨Nat.le_of_ble_eq_true rfl, Nat.le_of_ble_eq_true rfl⟩) aw_p0 rfl rfl hl.1 rfl (lv_room (Nat.le_of_ble_eq_true rfl)) d_Xt_back_87 ⟨Nat.le_of_ble_eq_true rfl, Nat.le_of_ble_eq_true rfl⟩).run) (fun y3 ey3 => ?_)
      have ey3 := ey3.symm
      exact W.lret hx hb hr (fun t ht hW => ⟨⟨_, (), rfl, (by subst ey3 ex2 ex1; rfl), ag_Hr ht hP hD hSh⟩, hS.F ht⟩) hS.2.2 d_Xt_back_90
    | succ d ih =>
      intro t H locs L ls ht0 hP hD hSh hS hl
      refine lv_iload hx hb d_Xt_back_18 (lv_at hl 5 rfl) ?_
      refine lv_bipush (v := nI 32) hx hb d_Xt_back_20 (by decide +kernel) ?_
      refine lv_icmp_ge (tgt := 84) hx hb d_Xt_back_22 (by decide) (fun h => absurd h (show ¬ nI 32 ≤ nI t from fun h9 => absurd ((nI_leI (by omega) (by omega)).mp h9) (by omega))) (fun _ => ?_)
      refine lv_iload hx hb d_Xt_back_25 (lv_at hl 3 rfl) ?_
      refine lv_iload_n hx hb d_Xt_back_27 rfl (lv_at hl 2 rfl) ?_
      refine aw_ci ((va_runS (As := [.int ((v_Xt_backV_L18 zA j b t).1)]) (rest := [.int ((v_Xt_backV_L18 zA j b t).2.1)]) ⟨hx, hb, hml, hown, hG⟩ (k_Xt_stirredV l ((v_Xt_backV_L18 zA j b t).1)) (aw_wS 1 hG gw_6_48 gw_6_46 gw_0_5 gw_6_47 rfl rfl hd_Xt_stirred ⟨Nat.le_of_ble_eq_true rfl, Nat.le_of_ble_eq_true rfl⟩) aw_p0 rfl rfl hl.1 rfl (lv_room (Nat.le_of_ble_eq_true rfl)) d_Xt_back_28 ⟨Nat.le_of_ble_eq_true rfl, Nat.le_of_ble_eq_true rfl⟩).run) (fun x4 ex4 => ?_)
      have ex4 := ex4.symm
      refine lv_iload hx hb d_Xt_back_31 (lv_at hl 4 rfl) ?_
      refine lv_aload_n hx hb d_Xt_back_33 rfl (lv_at hl 0 rfl) ?_
      have he5 := zr_C5 hSh hj
      refine va_get (C := R_Xt) (T := T_Xt) (N := 1) (v := .ref (aw_c ad j 6)) hx hb hG in_Xt hown hK hP (3 + 16 * j + 5) he5 rfl 0 (by decide) (hG _ gw_0_44) (fun x9 h9 => u_same (hG _ gw_0_45) x9 h9) rfl d_Xt_back_34 ?_
      clear he5
      refine lv_iload hx hb d_Xt_back_37 (lv_at hl 4 rfl) ?_
      refine lv_bipush (v := nI 11) hx hb d_Xt_back_39 (by decide +kernel) ?_
      refine lv_iushr hx hb d_Xt_back_41 rfl ?_
      refine ag_topi (fun x6 ex6 => ?_)
      refine lv_iconst (v := nI 3) hx hb d_Xt_back_42 (by decide +kernel) ?_
      refine lv_iand hx hb d_Xt_back_43 ?_
      obtain ⟨k7, hk7, ek7⟩ := pk_andE x6 (m := nI 3) 2 (by decide +kernel)
      have fk7 : (x6 &&& nI 3).toNatClampNeg = k7 := by rw [ek7, nI_clamp (by omega)]
      refine aw_ti ek7 ?_
      have he8 := zr_C6 hSh hj
      refine aw_ild hx hb hK hP (3 + 16 * j + 6) 0 he8 rfl (k := k7) (by omega) (by decide) d_Xt_back_44 ?_
      clear he8
      refine ag_topi (fun x9 ex9 => ?_)
      refine lv_iadd hx hb d_Xt_back_45 ?_
      refine ag_topi (fun x10 ex10 => ?_)
      refine lv_ixor hx hb d_Xt_back_46 ?_
      refine ag_topi (fun x11 ex11 => ?_)
      refine lv_isub hx hb d_Xt_back_47 ?_
      refine ag_topi (fun x12 ex12 => ?_)
      refine lv_istore hx hb d_Xt_back_48 hl (by decide) rfl (fun ls hl => ?_)
      have hl : lv_has ls 7 [(4, .int x12), (0, .ref (aw_c ad j 5)), (1, .long b), (3, .int ((v_Xt_backV_L18 zA j b t).1)), (5, .int ((v_Xt_backV_L18 zA j b t).2.2)), (6, .int (nI t))] := hl
      refine lv_iload hx hb d_Xt_back_50 (lv_at hl 4 rfl) ?_
      refine lv_ldc (v := 1640531527) hx hb hown (hG _ gw_6_49) d_Xt_back_52 ?_
      refine lv_iadd hx hb d_Xt_back_54 ?_
      refine ag_topi (fun x13 ex13 => ?_)
      refine lv_istore hx hb d_Xt_back_55 hl (by decide) rfl (fun ls hl => ?_)
      have hl : lv_has ls 7 [(5, .int x13), (4, .int x12), (0, .ref (aw_c ad j 5)), (1, .long b), (3, .int ((v_Xt_backV_L18 zA j b t).1)), (6, .int (nI t))] := hl
      refine lv_iload_n hx hb d_Xt_back_57 rfl (lv_at hl 4 rfl) ?_
      refine lv_iload hx hb d_Xt_back_58 (lv_at hl 1 rfl) ?_
      refine aw_ci ((va_runS (As := [.int x12]) (rest := [.int ((v_Xt_backV_L18 zA j b t).1)]) ⟨hx, hb, hml, hown, hG⟩ (k_Xt_stirredV l x12) (aw_wS 1 hG gw_6_48 gw_6_46 gw_0_5 gw_6_47 rfl rfl hd_Xt_stirred ⟨Nat.le_of_ble_eq_true rfl, Nat.le_of_ble_eq_true rfl⟩) aw_p0 rfl rfl hl.1 rfl (lv_room (Nat.le_of_ble_eq_true rfl)) d_Xt_back_60 ⟨Nat.le_of_ble_eq_true rfl, Nat.le_of_ble_eq_true rfl⟩).run) (fun x14 ex14 => ?_)
      have ex14 := ex14.symm
      refine lv_iload hx hb d_Xt_back_63 (lv_at hl 0 rfl) ?_
      refine lv_aload_n hx hb d_Xt_back_65 rfl (lv_at hl 2 rfl) ?_
      have he15 := zr_C5 hSh hj
      refine va_get (C := R_Xt) (T := T_Xt) (N := 1) (v := .ref (aw_c ad j 6)) hx hb hG in_Xt hown hK hP (3 + 16 * j + 5) he15 rfl 0 (by decide) (hG _ gw_0_44) (fun x9 h9 => u_same (hG _ gw_0_45) x9 h9) rfl d_Xt_back_66 ?_
      clear he15
      refine lv_iload hx hb d_Xt_back_69 (lv_at hl 0 rfl) ?_
      refine lv_iconst (v := nI 3) hx hb d_Xt_back_71 (by decide +kernel) ?_
      refine lv_iand hx hb d_Xt_back_72 ?_
      obtain ⟨k16, hk16, ek16⟩ := pk_andE x13 (m := nI 3) 2 (by decide +kernel)
      have fk16 : (x13 &&& nI 3).toNatClampNeg = k16 := by rw [ek16, nI_clamp (by omega)]
      refine aw_ti ek16 ?_
      have he17 := zr_C6 hSh hj
      refine aw_ild hx hb hK hP (3 + 16 * j + 6) 0 he17 rfl (k := k16) (by omega) (by decide) d_Xt_back_73 ?_
      clear he17
      refine ag_topi (fun x18 ex18 => ?_)
      refine lv_iadd hx hb d_Xt_back_74 ?_
      refine ag_topi (fun x19 ex19 => ?_)
      refine lv_ixor hx hb d_Xt_back_75 ?_
      refine ag_topi (fun x20 ex20 => ?_)
      refine lv_isub hx hb d_Xt_back_76 ?_
      refine ag_topi (fun x21 ex21 => ?_)
      refine lv_istore_n hx hb d_Xt_back_77 rfl hl (by decide) rfl (fun ls hl => ?_)
      have hl : lv_has ls 7 [(3, .int x21), (5, .int x13), (4, .int x12), (0, .ref (aw_c ad j 5)), (1, .long b), (6, .int (nI t))] := hl
      refine lv_iinc (k := 5) (v := nI (t + 1)) hx hb d_Xt_back_78 hl rfl (aw_inc t 1 1 (by decide +kernel)) (by decide) rfl (fun ls hl => ?_)
      have hl : lv_has ls 7 [(6, .int (nI (t + 1))), (3, .int x21), (5, .int x13), (4, .int x12), (0, .ref (aw_c ad j 5)), (1, .long b)] := hl
      refine lv_goto (tgt := 18) hx hb d_Xt_back_81 (by decide) ?_
      have hl := lv_sub hl (l' := [(0, .ref (aw_c ad j 5)), (1, .long b), (3, .int x21), (4, .int x12), (5, .int x13), (6, .int (nI (t + 1)))]) [4, 5, 1, 3, 2, 0] rfl
      have g0 : x21 = (v_Xt_backV_L18 zA j b (t + 1)).1 := by subst ex21 ex20 ex19 ex18 fk16 ex14 ex13 ex12 ex11 ex10 ex9 fk7 ex6 ex4 ex2 ex1; (rw [v_Xt_backV_L18_s]) <;> rfl
      have g1 : x12 = (v_Xt_backV_L18 zA j b (t + 1)).2.1 := by subst ex21 ex20 ex19 ex18 fk16 ex14 ex13 ex12 ex11 ex10 ex9 fk7 ex6 ex4 ex2 ex1; (rw [v_Xt_backV_L18_s]) <;> rfl
      have g2 : x13 = (v_Xt_backV_L18 zA j b (t + 1)).2.2 := by subst ex21 ex20 ex19 ex18 fk16 ex14 ex13 ex12 ex11 ex10 ex9 fk7 ex6 ex4 ex2 ex1; (rw [v_Xt_backV_L18_s]) <;> rfl
      have hl : lv_has ls 7 [(0, .ref (aw_c ad j 5)), (1, .long b), (3, .int ((v_Xt_backV_L18 zA j b (t + 1)).1)), (4, .int ((v_Xt_backV_L18 zA j b (t + 1)).2.1)), (5, .int ((v_Xt_backV_L18 zA j b (t + 1)).2.2)), (6, .int (nI (t + 1)))] := by rw [← g0, ← g1, ← g2]; exact hl
      exact ih (t + 1) H locs L ls (by omega) hP hD hSh hS (by first | exact hl | simpa [Nat.add_assoc, Nat.mul_add, Nat.add_comm] using hl)
  have hl := lv_sub hl (l' := [(0, .ref (aw_c ad j 5)), (1, .long b), (3, .int x1), (4, .int x2), (5, .int ((-957401312))), (6, .int (nI 0))]) [4, 5, 3, 2, 1, 0] rfl
  have g0 : x1 = (v_Xt_backV_L18 zA j b 0).1 := by subst ex2 ex1; (rw [v_Xt_backV_L18_z]) <;> rfl
  have g1 : x2 = (v_Xt_backV_L18 zA j b 0).2.1 := by subst ex2 ex1; (rw [v_Xt_backV_L18_z]) <;> rfl
  have g2 : (-957401312) = (v_Xt_backV_L18 zA j b 0).2.2 := by subst ex2 ex1; (rw [v_Xt_backV_L18_z]) <;> rfl
  have hl : lv_has ls 7 [(0, .ref (aw_c ad j 5)), (1, .long b), (3, .int ((v_Xt_backV_L18 zA j b 0).1)), (4, .int ((v_Xt_backV_L18 zA j b 0).2.1)), (5, .int ((v_Xt_backV_L18 zA j b 0).2.2)), (6, .int (nI 0))] := by rw [← g0, ← g1]; exact hl
  exact L18 32 0 _ _ L ls (by omega) hP hD hSh hS (by first | exact hl | simpa using hl)
noncomputable def v_Sp_onV_L14 (zA : Nat → Nat → Nat → Int32) (j : Nat) (b : Int64) (t : Nat) : Int32 × Int32 := Nat.rec (motive := fun _ => Int32 × Int32) (v_Ru_firstHalfV b, v_Ru_secondHalfV b) (fun t s => ((((v_Ru_turnRightV (s.1) (nI 8)) + (s.2)) ^^^ (zA j 8 t)), ((v_Ru_turnLeftV (s.2) (nI 3)) ^^^ (((v_Ru_turnRightV (s.1) (nI 8)) + (s.2)) ^^^ (zA j 8 t))))) t
theorem v_Sp_onV_L14_z (zA : Nat → Nat → Nat → Int32) (j : Nat) (b : Int64) : v_Sp_onV_L14 zA j b 0 = (v_Ru_firstHalfV b, v_Ru_secondHalfV b) := rfl
theorem v_Sp_onV_L14_s (zA : Nat → Nat → Nat → Int32) (j : Nat) (b : Int64) (t : Nat) : v_Sp_onV_L14 zA j b (t + 1) = ((((v_Ru_turnRightV ((v_Sp_onV_L14 zA j b t).1) (nI 8)) + ((v_Sp_onV_L14 zA j b t).2)) ^^^ (zA j 8 t)), ((v_Ru_turnLeftV ((v_Sp_onV_L14 zA j b t).2) (nI 3)) ^^^ (((v_Ru_turnRightV ((v_Sp_onV_L14 zA j b t).1) (nI 8)) + ((v_Sp_onV_L14 zA j b t).2)) ^^^ (zA j 8 t)))) := rfl
noncomputable def v_Sp_onV (zA : Nat → Nat → Nat → Int32) (j : Nat) (b : Int64) : Int64 := v_Ru_joinedV ((v_Sp_onV_L14 zA j b 27).1) ((v_Sp_onV_L14 zA j b 27).2)
abbrev ws_Sp_onV : List Cond := Cond.code y_Sp_on b_Sp_on 6 (some .long) :: aw_G
abbrev rm_Sp_onV : Room := { frames := 1, cells := 0, slots := 0, locals := 21 }
set_option maxHeartbeats 4000000 in
set_option maxRecDepth 100000 in
theorem k_Sp_onV (l : Launch) (D : va_G) (g : Nat → ClassId) (ad : Nat → Nat) (N0 : Nat) (zG : Nat → Nat × Nat) (zO : Nat → Nat) (zX : Nat → Nat → Int64) (zY : Nat → Nat → Int32) (zA : Nat → Nat → Nat → Int32) (zB : Nat → Int32) (zM : Nat → Nat × Nat) (zI : Nat → Nat → Int32) (zL : Nat → Nat → Int64) (zK : Int32) (zN : Nat) (zF : Int32) (zQ : Int64) (j : Nat) (b : Int64) (hj : j < 4) : Met l y_Sp_on ws_Sp_onV rm_Sp_onV (va_Pc ([.ref (aw_c ad j 7), .long b] : List Value) (ag_B D g N0 (az_Sh g ad zG zO zX zY zA zB zM zI zL zK zN zF zQ))) (va_Ql (fun r (_ : Unit) => r = v_Sp_onV zA j b) (fun (_ : Unit) t => ag_H D N0 (az_Sh g ad zG zO zX zY zA zB zM zI zL zK zN zF zQ) t.heap) (aw_Z N0)) 0 0 (aw_Z N0) := by
  refine Met.ofW (cc := b_Sp_on) (maxL := 6) (ret := (some .long)) (by decide) rfl ?_
  intro p e s m args below meth c s₁ B hml hv
  obtain ⟨rfl, ⟨L, hP, hD, hSh⟩, hU⟩ := hv
  have hx := B.exec
  have hb := B.bytes
  have hr := B.returns
  have hG : ∀ w ∈ aw_G, w.before _ s = true := fun w h => atoms_spec (ws := ws_Sp_onV) B.pre w (List.mem_cons_of_mem _ h)
  have hown : s.vm.findClass "RuleCiphers$Speck" = some m.cls := findClass_of_methodNamed B.named
  have hlocks := B.notSynchronized
  have hE := hU.1
  have hK := hE.1
  have hN := hE.2.1
  have hS : va_S (aw_Z N0) s.heap s.heap [] := va_S.rf
  have hl := lv_entry ([.ref (aw_c ad j 7), .long b] : List Value) (n := 6) (Nat.le_of_ble_eq_true rfl)
  rw [lg_entry_eq]
  generalize (lg_sl ([.ref (aw_c ad j 7), .long b] : List Value) ++ List.replicate (6 - (lg_sl ([.ref (aw_c ad j 7), .long b] : List Value)).length) Slot.unset).toArray = ls at hl ⊢
  have hl : lv_has ls 6 [(0, .ref (aw_c ad j 7)), (1, .long b)] := hl
  refine lv_lload_n hx hb d_Sp_on_0 rfl (lv_at hl 1 rfl) ?_
  refine aw_ci ((va_runSN (As := [.long b]) (rest := []) ⟨hx, hb, hml, hown, hG⟩ (k_Ru_firstHalfV l b) (aw_wSN 1 hG hN gw_4_52 nw_30 gw_0_1 gw_4_51 rfl rfl hd_Ru_firstHalf ⟨Nat.le_of_ble_eq_true rfl, Nat.le_of_ble_eq_true rfl⟩) aw_p0 rfl rfl hl.1 rfl (lv_room (Nat.le_of_ble_eq_true rfl)) d_Sp_on_1 ⟨Nat.le_of_ble_eq_true rfl, Nat.le_of_ble_eq_true rfl⟩).run) (fun x1 ex1 => ?_)
  have ex1 := ex1.symm
  refine lv_istore_n hx hb d_Sp_on_4 rfl hl (by decide) rfl (fun ls hl => ?_)
  have hl : lv_has ls 6 [(3, .int x1), (0, .ref (aw_c ad j 7)), (1, .long b)] := hl
  refine lv_lload_n hx hb d_Sp_on_5 rfl (lv_at hl 2 rfl) ?_
  refine aw_ci ((va_runSN (As := [.long b]) (rest := []) ⟨hx, hb, hml, hown, hG⟩ (k_Ru_secondHalfV l b) (aw_wSN 1 hG hN gw_4_55 nw_31 gw_0_1 gw_4_54 rfl rfl hd_Ru_secondHalf ⟨Nat.le_of_ble_eq_true rfl, Nat.le_of_ble_eq_true rfl⟩) aw_p0 rfl rfl hl.1 rfl (lv_room (Nat.le_of_ble_eq_true rfl)) d_Sp_on_6 ⟨Nat.le_of_ble_eq_true rfl, Nat.le_of_ble_eq_true rfl⟩).run) (fun x2 ex2 => ?_)
  have ex2 := ex2.symm
  refine lv_istore hx hb d_Sp_on_9 hl (by decide) rfl (fun ls hl => ?_)
  have hl : lv_has ls 6 [(4, .int x2), (3, .int x1), (0, .ref (aw_c ad j 7)), (1, .long b)] := hl
  refine lv_iconst (v := nI 0) hx hb d_Sp_on_11 (by decide +kernel) ?_
  refine lv_istore hx hb d_Sp_on_12 hl (by decide) rfl (fun ls hl => ?_)
  have hl : lv_has ls 6 [(5, .int (nI 0)), (4, .int x2), (3, .int x1), (0, .ref (aw_c ad j 7)), (1, .long b)] := hl
  have L14 : ∀ (d t : Nat) (H : Heap) (locs : List Loc) (L : va_W) (ls : Array Slot), t + d = 27 → va_P D aw_C L H → va_D (aw_Z N0) L → az_Sh g ad zG zO zX zY zA zB zM zI zL zK zN zF zQ L → va_S (aw_Z N0) s.heap H locs → lv_has ls 6 [(0, .ref (aw_c ad j 7)), (1, .long b), (3, .int ((v_Sp_onV_L14 zA j b t).1)), (4, .int ((v_Sp_onV_L14 zA j b t).2)), (5, .int (nI t))] → W p l e (headSpec ws_Sp_onV rm_Sp_onV).room s m ([.ref (aw_c ad j 7), .long b] : List Value).toArray below meth c H locs 0 0 (MQ below (va_Ql (fun r (_ : Unit) => r = v_Sp_onV zA j b) (fun (_ : Unit) t => ag_H D N0 (az_Sh g ad zG zO zX zY zA zB zM zI zL zK zN zF zQ) t.heap) (aw_Z N0)) ([.ref (aw_c ad j 7), .long b] : List Value).toArray s 0 0 (aw_Z N0)) (F0 m 14 ls []) := by
    clear hl hP hD hSh hS
    intro d
    induction d with
    | zero =>
      intro t H locs L ls ht0 hP hD hSh hS hl
      have ht1 : t = 27 := by omega
      subst ht1
      refine lv_iload hx hb d_Sp_on_14 (lv_at hl 4 rfl) ?_
      refine lv_bipush (v := nI 27) hx hb d_Sp_on_16 (by decide +kernel) ?_
      refine lv_icmp_ge (tgt := 55) hx hb d_Sp_on_18 (by decide) (fun _ => ?_) (fun h => absurd (show nI 27 ≤ nI 27 from (nI_leI (by omega) (by omega)).mpr (by omega)) h)
      refine lv_iload_n hx hb d_Sp_on_55 rfl (lv_at hl 2 rfl) ?_
      refine lv_iload hx hb d_Sp_on_56 (lv_at hl 3 rfl) ?_
      refine aw_cl ((va_runSN (As := [.int ((v_Sp_onV_L14 zA j b 27).1), .int ((v_Sp_onV_L14 zA j b 27).2)]) (rest := []) ⟨hx, hb, hml, hown, hG⟩ (k_Ru_joinedV l ((v_Sp_onV_L14 zA j b 27).1) ((v_Sp_onV_L14 zA j b 27).2)) (aw_wSN 2 hG hN gw_6_31 nw_32 gw_0_1 gw_6_30 rfl rfl hd_Ru_joined ⟨Nat.le_of_ble_eq_true rfl, Nat.le_of_ble_eq_true rfl⟩) aw_p0 rfl rfl hl.1 rfl (lv_room (Nat.le_of_ble_eq_true rfl)) d_Sp_on_58 ⟨Nat.le_of_ble_eq_true rfl, Nat.le_of_ble_eq_true rfl⟩).run) (fun y3 ey3 => ?_)
      have ey3 := ey3.symm
      exact W.lret hx hb hr (fun t ht hW => ⟨⟨_, (), rfl, (by subst ey3 ex2 ex1; rfl), ag_Hr ht hP hD hSh⟩, hS.F ht⟩) hS.2.2 d_Sp_on_61
    | succ d ih =>
      intro t H locs L ls ht0 hP hD hSh hS hl
      refine lv_iload hx hb d_Sp_on_14 (lv_at hl 4 rfl) ?_
      refine lv_bipush (v := nI 27) hx hb d_Sp_on_16 (by decide +kernel) ?_
      refine lv_icmp_ge (tgt := 55) hx hb d_Sp_on_18 (by decide) (fun h => absurd h (show ¬ nI 27 ≤ nI t from fun h9 => absurd ((nI_leI (by omega) (by omega)).mp h9) (by omega))) (fun _ => ?_)
      refine lv_iload_n hx hb d_Sp_on_21 rfl (lv_at hl 2 rfl) ?_
      refine lv_bipush (v := nI 8) hx hb d_Sp_on_22 (by decide +kernel) ?_
      refine aw_ci ((va_runSN (As := [.int ((v_Sp_onV_L14 zA j b t).1), .int (nI 8)]) (rest := []) ⟨hx, hb, hml, hown, hG⟩ (k_Ru_turnRightV l ((v_Sp_onV_L14 zA j b t).1) (nI 8)) (aw_wSN 2 hG hN gw_5_10 nw_18 gw_0_1 gw_5_9 rfl rfl hd_Ru_turnRight ⟨Nat.le_of_ble_eq_true rfl, Nat.le_of_ble_eq_true rfl⟩) aw_p0 rfl rfl hl.1 rfl (lv_room (Nat.le_of_ble_eq_true rfl)) d_Sp_on_24 ⟨Nat.le_of_ble_eq_true rfl, Nat.le_of_ble_eq_true rfl⟩).run) (fun x4 ex4 => ?_)
      have ex4 := ex4.symm
      refine lv_iload hx hb d_Sp_on_27 (lv_at hl 3 rfl) ?_
      refine lv_iadd hx hb d_Sp_on_29 ?_
      refine ag_topi (fun x5 ex5 => ?_)
      refine lv_aload_n hx hb d_Sp_on_30 rfl (lv_at hl 0 rfl) ?_
      have he6 := zr_C7 hSh hj
      refine va_get (C := R_Sp) (T := T_Sp) (N := 2) (v := .ref (aw_c ad j 8)) hx hb hG in_Sp hown hK hP (3 + 16 * j + 7) he6 rfl 0 (by decide) (hG _ gw_0_48) (fun x9 h9 => u_same (hG _ gw_0_49) x9 h9) rfl d_Sp_on_31 ?_
      clear he6
      refine lv_iload hx hb d_Sp_on_34 (lv_at hl 4 rfl) ?_
      have he7 := zr_C8 hSh hj
      refine aw_ild hx hb hK hP (3 + 16 * j + 8) 0 he7 rfl (k := t) (by omega) (by decide) d_Sp_on_36 ?_
      clear he7
      refine ag_topi (fun x8 ex8 => ?_)
      refine lv_ixor hx hb d_Sp_on_37 ?_
      refine ag_topi (fun x9 ex9 => ?_)
      refine lv_istore_n hx hb d_Sp_on_38 rfl hl (by decide) rfl (fun ls hl => ?_)
      have hl : lv_has ls 6 [(3, .int x9), (0, .ref (aw_c ad j 7)), (1, .long b), (4, .int ((v_Sp_onV_L14 zA j b t).2)), (5, .int (nI t))] := hl
      refine lv_iload hx hb d_Sp_on_39 (lv_at hl 3 rfl) ?_
      refine lv_iconst (v := nI 3) hx hb d_Sp_on_41 (by decide +kernel) ?_
      refine aw_ci ((va_runSN (As := [.int ((v_Sp_onV_L14 zA j b t).2), .int (nI 3)]) (rest := []) ⟨hx, hb, hml, hown, hG⟩ (k_Ru_turnLeftV l ((v_Sp_onV_L14 zA j b t).2) (nI 3)) (aw_wSN 2 hG hN gw_5_5 nw_19 gw_0_1 gw_5_4 rfl rfl hd_Ru_turnLeft ⟨Nat.le_of_ble_eq_true rfl, Nat.le_of_ble_eq_true rfl⟩) aw_p0 rfl rfl hl.1 rfl (lv_room (Nat.le_of_ble_eq_true rfl)) d_Sp_on_42 ⟨Nat.le_of_ble_eq_true rfl, Nat.le_of_ble_eq_true rfl⟩).run) (fun x10 ex10 => ?_)
      have ex10 := ex10.symm
      refine lv_iload_n hx hb d_Sp_on_45 rfl (lv_at hl 0 rfl) ?_
      refine lv_ixor hx hb d_Sp_on_46 ?_
      refine ag_topi (fun x11 ex11 => ?_)
      refine lv_istore hx hb d_Sp_on_47 hl (by decide) rfl (fun ls hl => ?_)
      have hl : lv_has ls 6 [(4, .int x11), (3, .int x9), (0, .ref (aw_c ad j 7)), (1, .long b), (5, .int (nI t))] := hl
      refine lv_iinc (k := 4) (v := nI (t + 1)) hx hb d_Sp_on_49 hl rfl (aw_inc t 1 1 (by decide +kernel)) (by decide) rfl (fun ls hl => ?_)
      have hl : lv_has ls 6 [(5, .int (nI (t + 1))), (4, .int x11), (3, .int x9), (0, .ref (aw_c ad j 7)), (1, .long b)] := hl
      refine lv_goto (tgt := 14) hx hb d_Sp_on_52 (by decide) ?_
      have hl := lv_sub hl (l' := [(0, .ref (aw_c ad j 7)), (1, .long b), (3, .int x9), (4, .int x11), (5, .int (nI (t + 1)))]) [3, 4, 2, 1, 0] rfl
      have g0 : x9 = (v_Sp_onV_L14 zA j b (t + 1)).1 := by subst ex11 ex10 ex9 ex8 ex5 ex4 ex2 ex1; (rw [v_Sp_onV_L14_s]) <;> rfl
      have g1 : x11 = (v_Sp_onV_L14 zA j b (t + 1)).2 := by subst ex11 ex10 ex9 ex8 ex5 ex4 ex2 ex1; (rw [v_Sp_onV_L14_s]) <;> rfl
      have hl : lv_has ls 6 [(0, .ref (aw_c ad j 7)), (1, .long b), (3, .int ((v_Sp_onV_L14 zA j b (t + 1)).1)), (4, .int ((v_Sp_onV_L14 zA j b (t + 1)).2)), (5, .int (nI (t + 1)))] := by rw [← g0, ← g1]; exact hl
      exact ih (t + 1) H locs L ls (by omega) hP hD hSh hS (by first | exact hl | simpa [Nat.add_assoc, Nat.mul_add, Nat.add_comm] using hl)
  have hl := lv_sub hl (l' := [(0, .ref (aw_c ad j 7)), (1, .long b), (3, .int x1), (4, .int x2), (5, .int (nI 0))]) [3, 4, 2, 1, 0] rfl
  have g0 : x1 = (v_Sp_onV_L14 zA j b 0).1 := by subst ex2 ex1; (rw [v_Sp_onV_L14_z]) <;> rfl
  have g1 : x2 = (v_Sp_onV_L14 zA j b 0).2 := by subst ex2 ex1; (rw [v_Sp_onV_L14_z]) <;> rfl
  have hl : lv_has ls 6 [(0, .ref (aw_c ad j 7)), (1, .long b), (3, .int ((v_Sp_onV_L14 zA j b 0).1)), (4, .int ((v_Sp_onV_L14 zA j b 0).2)), (5, .int (nI 0))] := by rw [← g0, ← g1]; exact hl
  exact L14 27 0 _ _ L ls (by omega) hP hD hSh hS (by first | exact hl | simpa using hl)
noncomputable def v_Sp_backV_L15 (zA : Nat → Nat → Nat → Int32) (j : Nat) (b : Int64) (t : Nat) : Int32 × Int32 := Nat.rec (motive := fun _ => Int32 × Int32) (v_Ru_firstHalfV b, v_Ru_secondHalfV b) (fun t s => (v_Ru_turnLeftV (((s.1) ^^^ (zA j 8 (26 - t))) - (v_Ru_turnRightV ((s.2) ^^^ (s.1)) (nI 3))) (nI 8), v_Ru_turnRightV ((s.2) ^^^ (s.1)) (nI 3))) t
theorem v_Sp_backV_L15_z (zA : Nat → Nat → Nat → Int32) (j : Nat) (b : Int64) : v_Sp_backV_L15 zA j b 0 = (v_Ru_firstHalfV b, v_Ru_secondHalfV b) := rfl
theorem v_Sp_backV_L15_s (zA : Nat → Nat → Nat → Int32) (j : Nat) (b : Int64) (t : Nat) : v_Sp_backV_L15 zA j b (t + 1) = (v_Ru_turnLeftV ((((v_Sp_backV_L15 zA j b t).1) ^^^ (zA j 8 (26 - t))) - (v_Ru_turnRightV (((v_Sp_backV_L15 zA j b t).2) ^^^ ((v_Sp_backV_L15 zA j b t).1)) (nI 3))) (nI 8), v_Ru_turnRightV (((v_Sp_backV_L15 zA j b t).2) ^^^ ((v_Sp_backV_L15 zA j b t).1)) (nI 3)) := rfl
noncomputable def v_Sp_backV (zA : Nat → Nat → Nat → Int32) (j : Nat) (b : Int64) : Int64 := v_Ru_joinedV ((v_Sp_backV_L15 zA j b 27).1) ((v_Sp_backV_L15 zA j b 27).2)
abbrev ws_Sp_backV : List Cond := Cond.code y_Sp_back b_Sp_back 6 (some .long) :: aw_G
abbrev rm_Sp_backV : Room := { frames := 1, cells := 0, slots := 0, locals := 21 }
set_option maxHeartbeats 4000000 in
set_option maxRecDepth 100000 in
theorem k_Sp_backV (l : Launch) (D : va_G) (g : Nat → ClassId) (ad : Nat → Nat) (N0 : Nat) (zG : Nat → Nat × Nat) (zO : Nat → Nat) (zX : Nat → Nat → Int64) (zY : Nat → Nat → Int32) (zA : Nat → Nat → Nat → Int32) (zB : Nat → Int32) (zM : Nat → Nat × Nat) (zI : Nat → Nat → Int32) (zL : Nat → Nat → Int64) (zK : Int32) (zN : Nat) (zF : Int32) (zQ : Int64) (j : Nat) (b : Int64) (hj : j < 4) : Met l y_Sp_back ws_Sp_backV rm_Sp_backV (va_Pc ([.ref (aw_c ad j 7), .long b] : List Value) (ag_B D g N0 (az_Sh g ad zG zO zX zY zA zB zM zI zL zK zN zF zQ))) (va_Ql (fun r (_ : Unit) => r = v_Sp_backV zA j b) (fun (_ : Unit) t => ag_H D N0 (az_Sh g ad zG zO zX zY zA zB zM zI zL zK zN zF zQ) t.heap) (aw_Z N0)) 0 0 (aw_Z N0) := by
  refine Met.ofW (cc := b_Sp_back) (maxL := 6) (ret := (some .long)) (by decide) rfl ?_
  intro p e s m args below meth c s₁ B hml hv
  obtain ⟨rfl, ⟨L, hP, hD, hSh⟩, hU⟩ := hv
  have hx := B.exec
  have hb := B.bytes
  have hr := B.returns
  have hG : ∀ w ∈ aw_G, w.before _ s = true := fun w h => atoms_spec (ws := ws_Sp_backV) B.pre w (List.mem_cons_of_mem _ h)
  have hown : s.vm.findClass "RuleCiphers$Speck" = some m.cls := findClass_of_methodNamed B.named
  have hlocks := B.notSynchronized
  have hE := hU.1
  have hK := hE.1
  have hN := hE.2.1
  have hS : va_S (aw_Z N0) s.heap s.heap [] := va_S.rf
  have hl := lv_entry ([.ref (aw_c ad j 7), .long b] : List Value) (n := 6) (Nat.le_of_ble_eq_true rfl)
  rw [lg_entry_eq]
  generalize (lg_sl ([.ref (aw_c ad j 7), .long b] : List Value) ++ List.replicate (6 - (lg_sl ([.ref (aw_c ad j 7), .long b] : List Value)).length) Slot.unset).toArray = ls at hl ⊢
  have hl : lv_has ls 6 [(0, .ref (aw_c ad j 7)), (1, .long b)] := hl
  refine lv_lload_n hx hb d_Sp_back_0 rfl (lv_at hl 1 rfl) ?_
  refine aw_ci ((va_runSN (As := [.long b]) (rest := []) ⟨hx, hb, hml, hown, hG⟩ (k_Ru_firstHalfV l b) (aw_wSN 1 hG hN gw_4_52 nw_30 gw_0_1 gw_4_51 rfl rfl hd_Ru_firstHalf ⟨Nat.le_of_ble_eq_true rfl, Nat.le_of_ble_eq_true rfl⟩) aw_p0 rfl rfl hl.1 rfl (lv_room (Nat.le_of_ble_eq_true rfl)) d_Sp_back_1 ⟨Nat.le_of_ble_eq_true rfl, Nat.le_of_ble_eq_true rfl⟩).run) (fun x1 ex1 => ?_)
  have ex1 := ex1.symm
  refine lv_istore_n hx hb d_Sp_back_4 rfl hl (by decide) rfl (fun ls hl => ?_)
  have hl : lv_has ls 6 [(3, .int x1), (0, .ref (aw_c ad j 7)), (1, .long b)] := hl
  refine lv_lload_n hx hb d_Sp_back_5 rfl (lv_at hl 2 rfl) ?_
  refine aw_ci ((va_runSN (As := [.long b]) (rest := []) ⟨hx, hb, hml, hown, hG⟩ (k_Ru_secondHalfV l b) (aw_wSN 1 hG hN gw_4_55 nw_31 gw_0_1 gw_4_54 rfl rfl hd_Ru_secondHalf ⟨Nat.le_of_ble_eq_true rfl, Nat.le_of_ble_eq_true rfl⟩) aw_p0 rfl rfl hl.1 rfl (lv_room (Nat.le_of_ble_eq_true rfl)) d_Sp_back_6 ⟨Nat.le_of_ble_eq_true rfl, Nat.le_of_ble_eq_true rfl⟩).run) (fun x2 ex2 => ?_)
  have ex2 := ex2.symm
  refine lv_istore hx hb d_Sp_back_9 hl (by decide) rfl (fun ls hl => ?_)
  have hl : lv_has ls 6 [(4, .int x2), (3, .int x1), (0, .ref (aw_c ad j 7)), (1, .long b)] := hl
  refine lv_bipush (v := nI 26) hx hb d_Sp_back_11 (by decide +kernel) ?_
  refine lv_istore hx hb d_Sp_back_13 hl (by decide) rfl (fun ls hl => ?_)
  have hl : lv_has ls 6 [(5, .int (nI 26)), (4, .int x2), (3, .int x1), (0, .ref (aw_c ad j 7)), (1, .long b)] := hl
  have L15 : ∀ (d t : Nat) (H : Heap) (locs : List Loc) (L : va_W) (ls : Array Slot), t + d = 27 → va_P D aw_C L H → va_D (aw_Z N0) L → az_Sh g ad zG zO zX zY zA zB zM zI zL zK zN zF zQ L → va_S (aw_Z N0) s.heap H locs → lv_has ls 6 [(0, .ref (aw_c ad j 7)), (1, .long b), (3, .int ((v_Sp_backV_L15 zA j b t).1)), (4, .int ((v_Sp_backV_L15 zA j b t).2)), (5, .int (aw_dn (27 - t)))] → W p l e (headSpec ws_Sp_backV rm_Sp_backV).room s m ([.ref (aw_c ad j 7), .long b] : List Value).toArray below meth c H locs 0 0 (MQ below (va_Ql (fun r (_ : Unit) => r = v_Sp_backV zA j b) (fun (_ : Unit) t => ag_H D N0 (az_Sh g ad zG zO zX zY zA zB zM zI zL zK zN zF zQ) t.heap) (aw_Z N0)) ([.ref (aw_c ad j 7), .long b] : List Value).toArray s 0 0 (aw_Z N0)) (F0 m 15 ls []) := by
    clear hl hP hD hSh hS
    intro d
    induction d with
    | zero =>
      intro t H locs L ls ht0 hP hD hSh hS hl
      have ht1 : t = 27 := by omega
      subst ht1
      have hl : lv_has ls 6 [(0, .ref (aw_c ad j 7)), (1, .long b), (3, .int ((v_Sp_backV_L15 zA j b 27).1)), (4, .int ((v_Sp_backV_L15 zA j b 27).2)), (5, .int (aw_dn (27 - 27)))] := hl
      refine lv_iload hx hb d_Sp_back_15 (lv_at hl 4 rfl) ?_
      refine lv_if_lt (tgt := 54) hx hb d_Sp_back_17 (by decide) (fun _ => ?_) (fun h => absurd (by decide +kernel) h)
      refine lv_iload_n hx hb d_Sp_back_54 rfl (lv_at hl 2 rfl) ?_
      refine lv_iload hx hb d_Sp_back_55 (lv_at hl 3 rfl) ?_
      refine aw_cl ((va_runSN (As := [.int ((v_Sp_backV_L15 zA j b 27).1), .int ((v_Sp_backV_L15 zA j b 27).2)]) (rest := []) ⟨hx, hb, hml, hown, hG⟩ (k_Ru_joinedV l ((v_Sp_backV_L15 zA j b 27).1) ((v_Sp_backV_L15 zA j b 27).2)) (aw_wSN 2 hG hN gw_6_31 nw_32 gw_0_1 gw_6_30 rfl rfl hd_Ru_joined ⟨Nat.le_of_ble_eq_true rfl, Nat.le_of_ble_eq_true rfl⟩) aw_p0 rfl rfl hl.1 rfl (lv_room (Nat.le_of_ble_eq_true rfl)) d_Sp_back_57 ⟨Nat.le_of_ble_eq_true rfl, Nat.le_of_ble_eq_true rfl⟩).run) (fun y3 ey3 => ?_)
      have ey3 := ey3.symm
      exact W.lret hx hb hr (fun t ht hW => ⟨⟨_, (), rfl, (by subst ey3 ex2 ex1; rfl), ag_Hr ht hP hD hSh⟩, hS.F ht⟩) hS.2.2 d_Sp_back_60
    | succ d ih =>
      intro t H locs L ls ht0 hP hD hSh hS hl
      rw [aw_dnT 27 t (by omega)] at hl
      have hl : lv_has ls 6 [(0, .ref (aw_c ad j 7)), (1, .long b), (3, .int ((v_Sp_backV_L15 zA j b t).1)), (4, .int ((v_Sp_backV_L15 zA j b t).2)), (5, .int (nI (26 - t)))] := hl
      refine lv_iload hx hb d_Sp_back_15 (lv_at hl 4 rfl) ?_
      refine lv_if_lt (tgt := 54) hx hb d_Sp_back_17 (by decide) (fun h => absurd h (show ¬ nI (26 - t) < nI 0 from fun h9 => absurd ((nI_ltI (by omega) (by omega)).mp h9) (by omega))) (fun _ => ?_)
      refine lv_iload hx hb d_Sp_back_20 (lv_at hl 3 rfl) ?_
      refine lv_iload_n hx hb d_Sp_back_22 rfl (lv_at hl 2 rfl) ?_
      refine lv_ixor hx hb d_Sp_back_23 ?_
      refine ag_topi (fun x4 ex4 => ?_)
      refine lv_iconst (v := nI 3) hx hb d_Sp_back_24 (by decide +kernel) ?_
      refine aw_ci ((va_runSN (As := [.int x4, .int (nI 3)]) (rest := []) ⟨hx, hb, hml, hown, hG⟩ (k_Ru_turnRightV l x4 (nI 3)) (aw_wSN 2 hG hN gw_5_10 nw_18 gw_0_1 gw_5_9 rfl rfl hd_Ru_turnRight ⟨Nat.le_of_ble_eq_true rfl, Nat.le_of_ble_eq_true rfl⟩) aw_p0 rfl rfl hl.1 rfl (lv_room (Nat.le_of_ble_eq_true rfl)) d_Sp_back_25 ⟨Nat.le_of_ble_eq_true rfl, Nat.le_of_ble_eq_true rfl⟩).run) (fun x5 ex5 => ?_)
      have ex5 := ex5.symm
      refine lv_istore hx hb d_Sp_back_28 hl (by decide) rfl (fun ls hl => ?_)
      have hl : lv_has ls 6 [(4, .int x5), (0, .ref (aw_c ad j 7)), (1, .long b), (3, .int ((v_Sp_backV_L15 zA j b t).1)), (5, .int (nI (26 - t)))] := hl
      refine lv_iload_n hx hb d_Sp_back_30 rfl (lv_at hl 3 rfl) ?_
      refine lv_aload_n hx hb d_Sp_back_31 rfl (lv_at hl 1 rfl) ?_
      have he6 := zr_C7 hSh hj
      refine va_get (C := R_Sp) (T := T_Sp) (N := 2) (v := .ref (aw_c ad j 8)) hx hb hG in_Sp hown hK hP (3 + 16 * j + 7) he6 rfl 0 (by decide) (hG _ gw_0_48) (fun x9 h9 => u_same (hG _ gw_0_49) x9 h9) rfl d_Sp_back_32 ?_
      clear he6
      refine lv_iload hx hb d_Sp_back_35 (lv_at hl 4 rfl) ?_
      have he7 := zr_C8 hSh hj
      refine aw_ild hx hb hK hP (3 + 16 * j + 8) 0 he7 rfl (k := (26 - t)) (by omega) (by decide) d_Sp_back_37 ?_
      clear he7
      refine ag_topi (fun x8 ex8 => ?_)
      refine lv_ixor hx hb d_Sp_back_38 ?_
      refine ag_topi (fun x9 ex9 => ?_)
      refine lv_iload hx hb d_Sp_back_39 (lv_at hl 0 rfl) ?_
      refine lv_isub hx hb d_Sp_back_41 ?_
      refine ag_topi (fun x10 ex10 => ?_)
      refine lv_bipush (v := nI 8) hx hb d_Sp_back_42 (by decide +kernel) ?_
      refine aw_ci ((va_runSN (As := [.int x10, .int (nI 8)]) (rest := []) ⟨hx, hb, hml, hown, hG⟩ (k_Ru_turnLeftV l x10 (nI 8)) (aw_wSN 2 hG hN gw_5_5 nw_19 gw_0_1 gw_5_4 rfl rfl hd_Ru_turnLeft ⟨Nat.le_of_ble_eq_true rfl, Nat.le_of_ble_eq_true rfl⟩) aw_p0 rfl rfl hl.1 rfl (lv_room (Nat.le_of_ble_eq_true rfl)) d_Sp_back_44 ⟨Nat.le_of_ble_eq_true rfl, Nat.le_of_ble_eq_true rfl⟩).run) (fun x11 ex11 => ?_)
      have ex11 := ex11.symm
      refine lv_istore_n hx hb d_Sp_back_47 rfl hl (by decide) rfl (fun ls hl => ?_)
      have hl : lv_has ls 6 [(3, .int x11), (4, .int x5), (0, .ref (aw_c ad j 7)), (1, .long b), (5, .int (nI (26 - t)))] := hl
      refine lv_iinc (k := 4) (v := aw_dn (27 - (t + 1))) hx hb d_Sp_back_48 hl rfl (aw_dnS 27 t (by omega)) (by decide) rfl (fun ls hl => ?_)
      have hl : lv_has ls 6 [(5, .int (aw_dn (27 - (t + 1)))), (3, .int x11), (4, .int x5), (0, .ref (aw_c ad j 7)), (1, .long b)] := hl
      refine lv_goto (tgt := 15) hx hb d_Sp_back_51 (by decide) ?_
      have hl := lv_sub hl (l' := [(0, .ref (aw_c ad j 7)), (1, .long b), (3, .int x11), (4, .int x5), (5, .int (aw_dn (27 - (t + 1))))]) [3, 4, 1, 2, 0] rfl
      have g0 : x11 = (v_Sp_backV_L15 zA j b (t + 1)).1 := by subst ex11 ex10 ex9 ex8 ex5 ex4 ex2 ex1; (rw [v_Sp_backV_L15_s]) <;> rfl
      have g1 : x5 = (v_Sp_backV_L15 zA j b (t + 1)).2 := by subst ex11 ex10 ex9 ex8 ex5 ex4 ex2 ex1; (rw [v_Sp_backV_L15_s]) <;> rfl
      have hl : lv_has ls 6 [(0, .ref (aw_c ad j 7)), (1, .long b), (3, .int ((v_Sp_backV_L15 zA j b (t + 1)).1)), (4, .int ((v_Sp_backV_L15 zA j b (t + 1)).2)), (5, .int (aw_dn (27 - (t + 1))))] := by rw [← g0, ← g1]; exact hl
      exact ih (t + 1) H locs L ls (by omega) hP hD hSh hS (by first | exact hl | simpa [Nat.add_assoc, Nat.mul_add, Nat.add_comm] using hl)
  have hl := lv_sub hl (l' := [(0, .ref (aw_c ad j 7)), (1, .long b), (3, .int x1), (4, .int x2), (5, .int (nI 26))]) [3, 4, 2, 1, 0] rfl
  have g0 : x1 = (v_Sp_backV_L15 zA j b 0).1 := by subst ex2 ex1; (rw [v_Sp_backV_L15_z]) <;> rfl
  have g1 : x2 = (v_Sp_backV_L15 zA j b 0).2 := by subst ex2 ex1; (rw [v_Sp_backV_L15_z]) <;> rfl
  have hl : lv_has ls 6 [(0, .ref (aw_c ad j 7)), (1, .long b), (3, .int ((v_Sp_backV_L15 zA j b 0).1)), (4, .int ((v_Sp_backV_L15 zA j b 0).2)), (5, .int (nI 26))] := by rw [← g0, ← g1]; exact hl
  exact L15 27 0 _ _ L ls (by omega) hP hD hSh hS (by first | exact hl | simpa using hl)
noncomputable def v_Si_onV_L14 (zA : Nat → Nat → Nat → Int32) (j : Nat) (b : Int64) (t : Nat) : Int32 × Int32 := Nat.rec (motive := fun _ => Int32 × Int32) (v_Ru_firstHalfV b, v_Ru_secondHalfV b) (fun t s => ((((s.2) ^^^ (v_Si_stirredV (s.1))) ^^^ (zA j 11 t)), s.1)) t
theorem v_Si_onV_L14_z (zA : Nat → Nat → Nat → Int32) (j : Nat) (b : Int64) : v_Si_onV_L14 zA j b 0 = (v_Ru_firstHalfV b, v_Ru_secondHalfV b) := rfl
theorem v_Si_onV_L14_s (zA : Nat → Nat → Nat → Int32) (j : Nat) (b : Int64) (t : Nat) : v_Si_onV_L14 zA j b (t + 1) = (((((v_Si_onV_L14 zA j b t).2) ^^^ (v_Si_stirredV ((v_Si_onV_L14 zA j b t).1))) ^^^ (zA j 11 t)), (v_Si_onV_L14 zA j b t).1) := rfl
noncomputable def v_Si_onV (zA : Nat → Nat → Nat → Int32) (j : Nat) (b : Int64) : Int64 := v_Ru_joinedV ((v_Si_onV_L14 zA j b 44).1) ((v_Si_onV_L14 zA j b 44).2)
abbrev ws_Si_onV : List Cond := Cond.code y_Si_on b_Si_on 7 (some .long) :: aw_G
abbrev rm_Si_onV : Room := { frames := 2, cells := 0, slots := 0, locals := 41 }
set_option maxHeartbeats 4000000 in
set_option maxRecDepth 100000 in
theorem k_Si_onV (l : Launch) (D : va_G) (g : Nat → ClassId) (ad : Nat → Nat) (N0 : Nat) (zG : Nat → Nat × Nat) (zO : Nat → Nat) (zX : Nat → Nat → Int64) (zY : Nat → Nat → Int32) (zA : Nat → Nat → Nat → Int32) (zB : Nat → Int32) (zM : Nat → Nat × Nat) (zI : Nat → Nat → Int32) (zL : Nat → Nat → Int64) (zK : Int32) (zN : Nat) (zF : Int32) (zQ : Int64) (j : Nat) (b : Int64) (hj : j < 4) : Met l y_Si_on ws_Si_onV rm_Si_onV (va_Pc ([.ref (aw_c ad j 10), .long b] : List Value) (ag_B D g N0 (az_Sh g ad zG zO zX zY zA zB zM zI zL zK zN zF zQ))) (va_Ql (fun r (_ : Unit) => r = v_Si_onV zA j b) (fun (_ : Unit) t => ag_H D N0 (az_Sh g ad zG zO zX zY zA zB zM zI zL zK zN zF zQ) t.heap) (aw_Z N0)) 0 0 (aw_Z N0) := by
  refine Met.ofW (cc := b_Si_on) (maxL := 7) (ret := (some .long)) (by decide) rfl ?_
  intro p e s m args below meth c s₁ B hml hv
  obtain ⟨rfl, ⟨L, hP, hD, hSh⟩, hU⟩ := hv
  have hx := B.exec
  have hb := B.bytes
  have hr := B.returns
  have hG : ∀ w ∈ aw_G, w.before _ s = true := fun w h => atoms_spec (ws := ws_Si_onV) B.pre w (List.mem_cons_of_mem _ h)
  have hown : s.vm.findClass "RuleCiphers$Simon" = some m.cls := findClass_of_methodNamed B.named
  have hlocks := B.notSynchronized
  have hE := hU.1
  have hK := hE.1
  have hN := hE.2.1
  have hS : va_S (aw_Z N0) s.heap s.heap [] := va_S.rf
  have hl := lv_entry ([.ref (aw_c ad j 10), .long b] : List Value) (n := 7) (Nat.le_of_ble_eq_true rfl)
  rw [lg_entry_eq]
  generalize (lg_sl ([.ref (aw_c ad j 10), .long b] : List Value) ++ List.replicate (7 - (lg_sl ([.ref (aw_c ad j 10), .long b] : List Value)).length) Slot.unset).toArray = ls at hl ⊢
  have hl : lv_has ls 7 [(0, .ref (aw_c ad j 10)), (1, .long b)] := hl
  refine lv_lload_n hx hb d_Si_on_0 rfl (lv_at hl 1 rfl) ?_
  refine aw_ci ((va_runSN (As := [.long b]) (rest := []) ⟨hx, hb, hml, hown, hG⟩ (k_Ru_firstHalfV l b) (aw_wSN 1 hG hN gw_4_52 nw_26 gw_0_1 gw_4_51 rfl rfl hd_Ru_firstHalf ⟨Nat.le_of_ble_eq_true rfl, Nat.le_of_ble_eq_true rfl⟩) aw_p0 rfl rfl hl.1 rfl (lv_room (Nat.le_of_ble_eq_true rfl)) d_Si_on_1 ⟨Nat.le_of_ble_eq_true rfl, Nat.le_of_ble_eq_true rfl⟩).run) (fun x1 ex1 => ?_)
  have ex1 := ex1.symm
  refine lv_istore_n hx hb d_Si_on_4 rfl hl (by decide) rfl (fun ls hl => ?_)
  have hl : lv_has ls 7 [(3, .int x1), (0, .ref (aw_c ad j 10)), (1, .long b)] := hl
  refine lv_lload_n hx hb d_Si_on_5 rfl (lv_at hl 2 rfl) ?_
  refine aw_ci ((va_runSN (As := [.long b]) (rest := []) ⟨hx, hb, hml, hown, hG⟩ (k_Ru_secondHalfV l b) (aw_wSN 1 hG hN gw_4_55 nw_27 gw_0_1 gw_4_54 rfl rfl hd_Ru_secondHalf ⟨Nat.le_of_ble_eq_true rfl, Nat.le_of_ble_eq_true rfl⟩) aw_p0 rfl rfl hl.1 rfl (lv_room (Nat.le_of_ble_eq_true rfl)) d_Si_on_6 ⟨Nat.le_of_ble_eq_true rfl, Nat.le_of_ble_eq_true rfl⟩).run) (fun x2 ex2 => ?_)
  have ex2 := ex2.symm
  refine lv_istore hx hb d_Si_on_9 hl (by decide) rfl (fun ls hl => ?_)
  have hl : lv_has ls 7 [(4, .int x2), (3, .int x1), (0, .ref (aw_c ad j 10)), (1, .long b)] := hl
  refine lv_iconst (v := nI 0) hx hb d_Si_on_11 (by decide +kernel) ?_
  refine lv_istore hx hb d_Si_on_12 hl (by decide) rfl (fun ls hl => ?_)
  have hl : lv_has ls 7 [(5, .int (nI 0)), (4, .int x2), (3, .int x1), (0, .ref (aw_c ad j 10)), (1, .long b)] := hl
  have L14 : ∀ (d t : Nat) (H : Heap) (locs : List Loc) (L : va_W) (ls : Array Slot), t + d = 44 → va_P D aw_C L H → va_D (aw_Z N0) L → az_Sh g ad zG zO zX zY zA zB zM zI zL zK zN zF zQ L → va_S (aw_Z N0) s.heap H locs → lv_has ls 7 [(0, .ref (aw_c ad j 10)), (1, .long b), (3, .int ((v_Si_onV_L14 zA j b t).1)), (4, .int ((v_Si_onV_L14 zA j b t).2)), (5, .int (nI t))] → W p l e (headSpec ws_Si_onV rm_Si_onV).room s m ([.ref (aw_c ad j 10), .long b] : List Value).toArray below meth c H locs 0 0 (MQ below (va_Ql (fun r (_ : Unit) => r = v_Si_onV zA j b) (fun (_ : Unit) t => ag_H D N0 (az_Sh g ad zG zO zX zY zA zB zM zI zL zK zN zF zQ) t.heap) (aw_Z N0)) ([.ref (aw_c ad j 10), .long b] : List Value).toArray s 0 0 (aw_Z N0)) (F0 m 14 ls []) := by
    clear hl hP hD hSh hS
    intro d
    induction d with
    | zero =>
      intro t H locs L ls ht0 hP hD hSh hS hl
      have ht1 : t = 44 := by omega
      subst ht1
      refine lv_iload hx hb d_Si_on_14 (lv_at hl 4 rfl) ?_
      refine lv_bipush (v := nI 44) hx hb d_Si_on_16 (by decide +kernel) ?_
      refine lv_icmp_ge (tgt := 50) hx hb d_Si_on_18 (by decide) (fun _ => ?_) (fun h => absurd (show nI 44 ≤ nI 44 from (nI_leI (by omega) (by omega)).mpr (by omega)) h)
      refine lv_iload_n hx hb d_Si_on_50 rfl (lv_at hl 2 rfl) ?_
      refine lv_iload hx hb d_Si_on_51 (lv_at hl 3 rfl) ?_
      refine aw_cl ((va_runSN (As := [.int ((v_Si_onV_L14 zA j b 44).1), .int ((v_Si_onV_L14 zA j b 44).2)]) (rest := []) ⟨hx, hb, hml, hown, hG⟩ (k_Ru_joinedV l ((v_Si_onV_L14 zA j b 44).1) ((v_Si_onV_L14 zA j b 44).2)) (aw_wSN 2 hG hN gw_6_31 nw_29 gw_0_1 gw_6_30 rfl rfl hd_Ru_joined ⟨Nat.le_of_ble_eq_true rfl, Nat.le_of_ble_eq_true rfl⟩) aw_p0 rfl rfl hl.1 rfl (lv_room (Nat.le_of_ble_eq_true rfl)) d_Si_on_53 ⟨Nat.le_of_ble_eq_true rfl, Nat.le_of_ble_eq_true rfl⟩).run) (fun y3 ey3 => ?_)
      have ey3 := ey3.symm
      exact W.lret hx hb hr (fun t ht hW => ⟨⟨_, (), rfl, (by subst ey3 ex2 ex1; rfl), ag_Hr ht hP hD hSh⟩, hS.F ht⟩) hS.2.2 d_Si_on_56
    | succ d ih =>
      intro t H locs L ls ht0 hP hD hSh hS hl
      refine lv_iload hx hb d_Si_on_14 (lv_at hl 4 rfl) ?_
      refine lv_bipush (v := nI 44) hx hb d_Si_on_16 (by decide +kernel) ?_
      refine lv_icmp_ge (tgt := 50) hx hb d_Si_on_18 (by decide) (fun h => absurd h (show ¬ nI 44 ≤ nI t from fun h9 => absurd ((nI_leI (by omega) (by omega)).mp h9) (by omega))) (fun _ => ?_)
      refine lv_iload_n hx hb d_Si_on_21 rfl (lv_at hl 2 rfl) ?_
      refine lv_istore hx hb d_Si_on_22 hl (by decide) rfl (fun ls hl => ?_)
      have hl : lv_has ls 7 [(6, .int ((v_Si_onV_L14 zA j b t).1)), (0, .ref (aw_c ad j 10)), (1, .long b), (3, .int ((v_Si_onV_L14 zA j b t).1)), (4, .int ((v_Si_onV_L14 zA j b t).2)), (5, .int (nI t))] := hl
      refine lv_iload hx hb d_Si_on_24 (lv_at hl 4 rfl) ?_
      refine lv_iload_n hx hb d_Si_on_26 rfl (lv_at hl 3 rfl) ?_
      refine va_calli (va_runS (As := [.int ((v_Si_onV_L14 zA j b t).1)]) (rest := [.int ((v_Si_onV_L14 zA j b t).2)]) ⟨hx, hb, hml, hown, hG⟩ (k_Si_stirredV l D g ad N0 zG zO zX zY zA zB zM zI zL zK zN zF zQ ((v_Si_onV_L14 zA j b t).1)) (aw_wS 1 hG gw_6_38 gw_6_36 gw_0_7 gw_6_37 rfl rfl hd_Si_stirred ⟨Nat.le_of_ble_eq_true rfl, Nat.le_of_ble_eq_true rfl⟩) (ag_qS hP hD hSh hU hS) rfl rfl hl.1 rfl (lv_room (Nat.le_of_ble_eq_true rfl)) d_Si_on_27 ⟨Nat.le_of_ble_eq_true rfl, Nat.le_of_ble_eq_true rfl⟩) hS (fun _ _ h => h) (fun _ h => h) ?_
      clear hP hD hSh hS
      intro x4 u8 t8 H locs ht _ ex4 hB _ _ hS
      obtain ⟨L, hP, hD, hSh⟩ := hB
      rw [ht] at hP
      clear ht
      have ex4 := ex4.symm
      refine lv_ixor hx hb d_Si_on_30 ?_
      refine ag_topi (fun x5 ex5 => ?_)
      refine lv_aload_n hx hb d_Si_on_31 rfl (lv_at hl 1 rfl) ?_
      have he6 := zr_C10 hSh hj
      refine va_get (C := R_Si) (T := T_Si) (N := 1) (v := .ref (aw_c ad j 11)) hx hb hG in_Si hown hK hP (3 + 16 * j + 10) he6 rfl 0 (by decide) (hG _ gw_0_42) (fun x9 h9 => u_same (hG _ gw_0_43) x9 h9) rfl d_Si_on_32 ?_
      clear he6
      refine lv_iload hx hb d_Si_on_35 (lv_at hl 5 rfl) ?_
      have he7 := zr_C11 hSh hj
      refine aw_ild hx hb hK hP (3 + 16 * j + 11) 0 he7 rfl (k := t) (by omega) (by decide) d_Si_on_37 ?_
      clear he7
      refine ag_topi (fun x8 ex8 => ?_)
      refine lv_ixor hx hb d_Si_on_38 ?_
      refine ag_topi (fun x9 ex9 => ?_)
      refine lv_istore_n hx hb d_Si_on_39 rfl hl (by decide) rfl (fun ls hl => ?_)
      have hl : lv_has ls 7 [(3, .int x9), (6, .int ((v_Si_onV_L14 zA j b t).1)), (0, .ref (aw_c ad j 10)), (1, .long b), (4, .int ((v_Si_onV_L14 zA j b t).2)), (5, .int (nI t))] := hl
      refine lv_iload hx hb d_Si_on_40 (lv_at hl 1 rfl) ?_
      refine lv_istore hx hb d_Si_on_42 hl (by decide) rfl (fun ls hl => ?_)
      have hl : lv_has ls 7 [(4, .int ((v_Si_onV_L14 zA j b t).1)), (3, .int x9), (6, .int ((v_Si_onV_L14 zA j b t).1)), (0, .ref (aw_c ad j 10)), (1, .long b), (5, .int (nI t))] := hl
      refine lv_iinc (k := 5) (v := nI (t + 1)) hx hb d_Si_on_44 hl rfl (aw_inc t 1 1 (by decide +kernel)) (by decide) rfl (fun ls hl => ?_)
      have hl : lv_has ls 7 [(5, .int (nI (t + 1))), (4, .int ((v_Si_onV_L14 zA j b t).1)), (3, .int x9), (6, .int ((v_Si_onV_L14 zA j b t).1)), (0, .ref (aw_c ad j 10)), (1, .long b)] := hl
      refine lv_goto (tgt := 14) hx hb d_Si_on_47 (by decide) ?_
      have hl := lv_sub hl (l' := [(0, .ref (aw_c ad j 10)), (1, .long b), (3, .int x9), (4, .int ((v_Si_onV_L14 zA j b t).1)), (5, .int (nI (t + 1)))]) [4, 5, 2, 1, 0] rfl
      have g0 : x9 = (v_Si_onV_L14 zA j b (t + 1)).1 := by subst ex9 ex8 ex5 ex4 ex2 ex1; (rw [v_Si_onV_L14_s]) <;> rfl
      have g1 : (v_Si_onV_L14 zA j b t).1 = (v_Si_onV_L14 zA j b (t + 1)).2 := by subst ex9 ex8 ex5 ex4 ex2 ex1; (rw [v_Si_onV_L14_s]) <;> rfl
      have hl : lv_has ls 7 [(0, .ref (aw_c ad j 10)), (1, .long b), (3, .int ((v_Si_onV_L14 zA j b (t + 1)).1)), (4, .int ((v_Si_onV_L14 zA j b (t + 1)).2)), (5, .int (nI (t + 1)))] := by rw [← g0, ← g1]; exact hl
      exact ih (t + 1) H locs L ls (by omega) hP hD hSh hS (by first | exact hl | simpa [Nat.add_assoc, Nat.mul_add, Nat.add_comm] using hl)
  have hl := lv_sub hl (l' := [(0, .ref (aw_c ad j 10)), (1, .long b), (3, .int x1), (4, .int x2), (5, .int (nI 0))]) [3, 4, 2, 1, 0] rfl
  have g0 : x1 = (v_Si_onV_L14 zA j b 0).1 := by subst ex2 ex1; (rw [v_Si_onV_L14_z]) <;> rfl
  have g1 : x2 = (v_Si_onV_L14 zA j b 0).2 := by subst ex2 ex1; (rw [v_Si_onV_L14_z]) <;> rfl
  have hl : lv_has ls 7 [(0, .ref (aw_c ad j 10)), (1, .long b), (3, .int ((v_Si_onV_L14 zA j b 0).1)), (4, .int ((v_Si_onV_L14 zA j b 0).2)), (5, .int (nI 0))] := by rw [← g0, ← g1]; exact hl
  exact L14 44 0 _ _ L ls (by omega) hP hD hSh hS (by first | exact hl | simpa using hl)
noncomputable def v_Si_backV_L15 (zA : Nat → Nat → Nat → Int32) (j : Nat) (b : Int64) (t : Nat) : Int32 × Int32 := Nat.rec (motive := fun _ => Int32 × Int32) (v_Ru_firstHalfV b, v_Ru_secondHalfV b) (fun t s => (s.2, (((s.1) ^^^ (v_Si_stirredV (s.2))) ^^^ (zA j 11 (43 - t))))) t
theorem v_Si_backV_L15_z (zA : Nat → Nat → Nat → Int32) (j : Nat) (b : Int64) : v_Si_backV_L15 zA j b 0 = (v_Ru_firstHalfV b, v_Ru_secondHalfV b) := rfl
theorem v_Si_backV_L15_s (zA : Nat → Nat → Nat → Int32) (j : Nat) (b : Int64) (t : Nat) : v_Si_backV_L15 zA j b (t + 1) = ((v_Si_backV_L15 zA j b t).2, ((((v_Si_backV_L15 zA j b t).1) ^^^ (v_Si_stirredV ((v_Si_backV_L15 zA j b t).2))) ^^^ (zA j 11 (43 - t)))) := rfl
noncomputable def v_Si_backV (zA : Nat → Nat → Nat → Int32) (j : Nat) (b : Int64) : Int64 := v_Ru_joinedV ((v_Si_backV_L15 zA j b 44).1) ((v_Si_backV_L15 zA j b 44).2)
abbrev ws_Si_backV : List Cond := Cond.code y_Si_back b_Si_back 7 (some .long) :: aw_G
abbrev rm_Si_backV : Room := { frames := 2, cells := 0, slots := 0, locals := 41 }
set_option maxHeartbeats 4000000 in
set_option maxRecDepth 100000 in
theorem k_Si_backV (l : Launch) (D : va_G) (g : Nat → ClassId) (ad : Nat → Nat) (N0 : Nat) (zG : Nat → Nat × Nat) (zO : Nat → Nat) (zX : Nat → Nat → Int64) (zY : Nat → Nat → Int32) (zA : Nat → Nat → Nat → Int32) (zB : Nat → Int32) (zM : Nat → Nat × Nat) (zI : Nat → Nat → Int32) (zL : Nat → Nat → Int64) (zK : Int32) (zN : Nat) (zF : Int32) (zQ : Int64) (j : Nat) (b : Int64) (hj : j < 4) : Met l y_Si_back ws_Si_backV rm_Si_backV (va_Pc ([.ref (aw_c ad j 10), .long b] : List Value) (ag_B D g N0 (az_Sh g ad zG zO zX zY zA zB zM zI zL zK zN zF zQ))) (va_Ql (fun r (_ : Unit) => r = v_Si_backV zA j b) (fun (_ : Unit) t => ag_H D N0 (az_Sh g ad zG zO zX zY zA zB zM zI zL zK zN zF zQ) t.heap) (aw_Z N0)) 0 0 (aw_Z N0) := by
  refine Met.ofW (cc := b_Si_back) (maxL := 7) (ret := (some .long)) (by decide) rfl ?_
  intro p e s m args below meth c s₁ B hml hv
  obtain ⟨rfl, ⟨L, hP, hD, hSh⟩, hU⟩ := hv
  have hx := B.exec
  have hb := B.bytes
  have hr := B.returns
  have hG : ∀ w ∈ aw_G, w.before _ s = true := fun w h => atoms_spec (ws := ws_Si_backV) B.pre w (List.mem_cons_of_mem _ h)
  have hown : s.vm.findClass "RuleCiphers$Simon" = some m.cls := findClass_of_methodNamed B.named
  have hlocks := B.notSynchronized
  have hE := hU.1
  have hK := hE.1
  have hN := hE.2.1
  have hS : va_S (aw_Z N0) s.heap s.heap [] := va_S.rf
  have hl := lv_entry ([.ref (aw_c ad j 10), .long b] : List Value) (n := 7) (Nat.le_of_ble_eq_true rfl)
  rw [lg_entry_eq]
  generalize (lg_sl ([.ref (aw_c ad j 10), .long b] : List Value) ++ List.replicate (7 - (lg_sl ([.ref (aw_c ad j 10), .long b] : List Value)).length) Slot.unset).toArray = ls at hl ⊢
  have hl : lv_has ls 7 [(0, .ref (aw_c ad j 10)), (1, .long b)] := hl
  refine lv_lload_n hx hb d_Si_back_0 rfl (lv_at hl 1 rfl) ?_
  refine aw_ci ((va_runSN (As := [.long b]) (rest := []) ⟨hx, hb, hml, hown, hG⟩ (k_Ru_firstHalfV l b) (aw_wSN 1 hG hN gw_4_52 nw_26 gw_0_1 gw_4_51 rfl rfl hd_Ru_firstHalf ⟨Nat.le_of_ble_eq_true rfl, Nat.le_of_ble_eq_true rfl⟩) aw_p0 rfl rfl hl.1 rfl (lv_room (Nat.le_of_ble_eq_true rfl)) d_Si_back_1 ⟨Nat.le_of_ble_eq_true rfl, Nat.le_of_ble_eq_true rfl⟩).run) (fun x1 ex1 => ?_)
  have ex1 := ex1.symm
  refine lv_istore_n hx hb d_Si_back_4 rfl hl (by decide) rfl (fun ls hl => ?_)
  have hl : lv_has ls 7 [(3, .int x1), (0, .ref (aw_c ad j 10)), (1, .long b)] := hl
  refine lv_lload_n hx hb d_Si_back_5 rfl (lv_at hl 2 rfl) ?_
  refine aw_ci ((va_runSN (As := [.long b]) (rest := []) ⟨hx, hb, hml, hown, hG⟩ (k_Ru_secondHalfV l b) (aw_wSN 1 hG hN gw_4_55 nw_27 gw_0_1 gw_4_54 rfl rfl hd_Ru_secondHalf ⟨Nat.le_of_ble_eq_true rfl, Nat.le_of_ble_eq_true rfl⟩) aw_p0 rfl rfl hl.1 rfl (lv_room (Nat.le_of_ble_eq_true rfl)) d_Si_back_6 ⟨Nat.le_of_ble_eq_true rfl, Nat.le_of_ble_eq_true rfl⟩).run) (fun x2 ex2 => ?_)
  have ex2 := ex2.symm
  refine lv_istore hx hb d_Si_back_9 hl (by decide) rfl (fun ls hl => ?_)
  have hl : lv_has ls 7 [(4, .int x2), (3, .int x1), (0, .ref (aw_c ad j 10)), (1, .long b)] := hl
  refine lv_bipush (v := nI 43) hx hb d_Si_back_11 (by decide +kernel) ?_
  refine lv_istore hx hb d_Si_back_13 hl (by decide) rfl (fun ls hl => ?_)
  have hl : lv_has ls 7 [(5, .int (nI 43)), (4, .int x2), (3, .int x1), (0, .ref (aw_c ad j 10)), (1, .long b)] := hl
  have L15 : ∀ (d t : Nat) (H : Heap) (locs : List Loc) (L : va_W) (ls : Array Slot), t + d = 44 → va_P D aw_C L H → va_D (aw_Z N0) L → az_Sh g ad zG zO zX zY zA zB zM zI zL zK zN zF zQ L → va_S (aw_Z N0) s.heap H locs → lv_has ls 7 [(0, .ref (aw_c ad j 10)), (1, .long b), (3, .int ((v_Si_backV_L15 zA j b t).1)), (4, .int ((v_Si_backV_L15 zA j b t).2)), (5, .int (aw_dn (44 - t)))] → W p l e (headSpec ws_Si_backV rm_Si_backV).room s m ([.ref (aw_c ad j 10), .long b] : List Value).toArray below meth c H locs 0 0 (MQ below (va_Ql (fun r (_ : Unit) => r = v_Si_backV zA j b) (fun (_ : Unit) t => ag_H D N0 (az_Sh g ad zG zO zX zY zA zB zM zI zL zK zN zF zQ) t.heap) (aw_Z N0)) ([.ref (aw_c ad j 10), .long b] : List Value).toArray s 0 0 (aw_Z N0)) (F0 m 15 ls []) := by
    clear hl hP hD hSh hS
    intro d
    induction d with
    | zero =>
      intro t H locs L ls ht0 hP hD hSh hS hl
      have ht1 : t = 44 := by omega
      subst ht1
      have hl : lv_has ls 7 [(0, .ref (aw_c ad j 10)), (1, .long b), (3, .int ((v_Si_backV_L15 zA j b 44).1)), (4, .int ((v_Si_backV_L15 zA j b 44).2)), (5, .int (aw_dn (44 - 44)))] := hl
      refine lv_iload hx hb d_Si_back_15 (lv_at hl 4 rfl) ?_
      refine lv_if_lt (tgt := 50) hx hb d_Si_back_17 (by decide) (fun _ => ?_) (fun h => absurd (by decide +kernel) h)
      refine lv_iload_n hx hb d_Si_back_50 rfl (lv_at hl 2 rfl) ?_
      refine lv_iload hx hb d_Si_back_51 (lv_at hl 3 rfl) ?_
      refine aw_cl ((va_runSN (As := [.int ((v_Si_backV_L15 zA j b 44).1), .int ((v_Si_backV_L15 zA j b 44).2)]) (rest := []) ⟨hx, hb, hml, hown, hG⟩ (k_Ru_joinedV l ((v_Si_backV_L15 zA j b 44).1) ((v_Si_backV_L15 zA j b 44).2)) (aw_wSN 2 hG hN gw_6_31 nw_29 gw_0_1 gw_6_30 rfl rfl hd_Ru_joined ⟨Nat.le_of_ble_eq_true rfl, Nat.le_of_ble_eq_true rfl⟩) aw_p0 rfl rfl hl.1 rfl (lv_room (Nat.le_of_ble_eq_true rfl)) d_Si_back_53 ⟨Nat.le_of_ble_eq_true rfl, Nat.le_of_ble_eq_true rfl⟩).run) (fun y3 ey3 => ?_)
      have ey3 := ey3.symm
      exact W.lret hx hb hr (fun t ht hW => ⟨⟨_, (), rfl, (by subst ey3 ex2 ex1; rfl), ag_Hr ht hP hD hSh⟩, hS.F ht⟩) hS.2.2 d_Si_back_56
    | succ d ih =>
      intro t H locs L ls ht0 hP hD hSh hS hl
      rw [aw_dnT 44 t (by omega)] at hl
      have hl : lv_has ls 7 [(0, .ref (aw_c ad j 10)), (1, .long b), (3, .int ((v_Si_backV_L15 zA j b t).1)), (4, .int ((v_Si_backV_L15 zA j b t).2)), (5, .int (nI (43 - t)))] := hl
      refine lv_iload hx hb d_Si_back_15 (lv_at hl 4 rfl) ?_
      refine lv_if_lt (tgt := 50) hx hb d_Si_back_17 (by decide) (fun h => absurd h (show ¬ nI (43 - t) < nI 0 from fun h9 => absurd ((nI_ltI (by omega) (by omega)).mp h9) (by omega))) (fun _ => ?_)
      refine lv_iload hx hb d_Si_back_20 (lv_at hl 3 rfl) ?_
      refine lv_istore hx hb d_Si_back_22 hl (by decide) rfl (fun ls hl => ?_)
      have hl : lv_has ls 7 [(6, .int ((v_Si_backV_L15 zA j b t).2)), (0, .ref (aw_c ad j 10)), (1, .long b), (3, .int ((v_Si_backV_L15 zA j b t).1)), (4, .int ((v_Si_backV_L15 zA j b t).2)), (5, .int (nI (43 - t)))] := hl
      refine lv_iload_n hx hb d_Si_back_24 rfl (lv_at hl 3 rfl) ?_
      refine lv_iload hx hb d_Si_back_25 (lv_at hl 4 rfl) ?_
      refine va_calli (va_runS (As := [.int ((v_Si_backV_L15 zA j b t).2)]) (rest := [.int ((v_Si_backV_L15 zA j b t).1)]) ⟨hx, hb, hml, hown, hG⟩ (k_Si_stirredV l D g ad N0 zG zO zX zY zA zB zM zI zL zK zN zF zQ ((v_Si_backV_L15 zA j b t).2)) (aw_wS 1 hG gw_6_38 gw_6_36 gw_0_7 gw_6_37 rfl rfl hd_Si_stirred ⟨Nat.le_of_ble_eq_true rfl, Nat.le_of_ble_eq_true rfl⟩) (ag_qS hP hD hSh hU hS) rfl rfl hl.1 rfl (lv_room (Nat.le_of_ble_eq_true rfl)) d_Si_back_27 ⟨Nat.le_of_ble_eq_true rfl, Nat.le_of_ble_eq_true rfl⟩) hS (fun _ _ h => h) (fun _ h => h) ?_
      clear hP hD hSh hS
      intro x4 u8 t8 H locs ht _ ex4 hB _ _ hS
      obtain ⟨L, hP, hD, hSh⟩ := hB
      rw [ht] at hP
      clear ht
      have ex4 := ex4.symm
      refine lv_ixor hx hb d_Si_back_30 ?_
      refine ag_topi (fun x5 ex5 => ?_)
      refine lv_aload_n hx hb d_Si_back_31 rfl (lv_at hl 1 rfl) ?_
      have he6 := zr_C10 hSh hj
      refine va_get (C := R_Si) (T := T_Si) (N := 1) (v := .ref (aw_c ad j 11)) hx hb hG in_Si hown hK hP (3 + 16 * j + 10) he6 rfl 0 (by decide) (hG _ gw_0_42) (fun x9 h9 => u_same (hG _ gw_0_43) x9 h9) rfl d_Si_back_32 ?_
      clear he6
      refine lv_iload hx hb d_Si_back_35 (lv_at hl 5 rfl) ?_
      have he7 := zr_C11 hSh hj
      refine aw_ild hx hb hK hP (3 + 16 * j + 11) 0 he7 rfl (k := (43 - t)) (by omega) (by decide) d_Si_back_37 ?_
      clear he7
      refine ag_topi (fun x8 ex8 => ?_)
      refine lv_ixor hx hb d_Si_back_38 ?_
      refine ag_topi (fun x9 ex9 => ?_)
      refine lv_istore hx hb d_Si_back_39 hl (by decide) rfl (fun ls hl => ?_)
      have hl : lv_has ls 7 [(4, .int x9), (6, .int ((v_Si_backV_L15 zA j b t).2)), (0, .ref (aw_c ad j 10)), (1, .long b), (3, .int ((v_Si_backV_L15 zA j b t).1)), (5, .int (nI (43 - t)))] := hl
      refine lv_iload hx hb d_Si_back_41 (lv_at hl 1 rfl) ?_
      refine lv_istore_n hx hb d_Si_back_43 rfl hl (by decide) rfl (fun ls hl => ?_)
      have hl : lv_has ls 7 [(3, .int ((v_Si_backV_L15 zA j b t).2)), (4, .int x9), (6, .int ((v_Si_backV_L15 zA j b t).2)), (0, .ref (aw_c ad j 10)), (1, .long b), (5, .int (nI (43 - t)))] := hl
      refine lv_iinc (k := 5) (v := aw_dn (44 - (t + 1))) hx hb d_Si_back_44 hl rfl (aw_dnS 44 t (by omega)) (by decide) rfl (fun ls hl => ?_)
      have hl : lv_has ls 7 [(5, .int (aw_dn (44 - (t + 1)))), (3, .int ((v_Si_backV_L15 zA j b t).2)), (4, .int x9), (6, .int ((v_Si_backV_L15 zA j b t).2)), (0, .ref (aw_c ad j 10)), (1, .long b)] := hl
      refine lv_goto (tgt := 15) hx hb d_Si_back_47 (by decide) ?_
      have hl := lv_sub hl (l' := [(0, .ref (aw_c ad j 10)), (1, .long b), (3, .int ((v_Si_backV_L15 zA j b t).2)), (4, .int x9), (5, .int (aw_dn (44 - (t + 1))))]) [4, 5, 1, 2, 0] rfl
      have g0 : (v_Si_backV_L15 zA j b t).2 = (v_Si_backV_L15 zA j b (t + 1)).1 := by subst ex9 ex8 ex5 ex4 ex2 ex1; (rw [v_Si_backV_L15_s]) <;> rfl
      have g1 : x9 = (v_Si_backV_L15 zA j b (t + 1)).2 := by subst ex9 ex8 ex5 ex4 ex2 ex1; (rw [v_Si_backV_L15_s]) <;> rfl
      have hl : lv_has ls 7 [(0, .ref (aw_c ad j 10)), (1, .long b), (3, .int ((v_Si_backV_L15 zA j b (t + 1)).1)), (4, .int ((v_Si_backV_L15 zA j b (t + 1)).2)), (5, .int (aw_dn (44 - (t + 1))))] := by rw [← g0, ← g1]; exact hl
      exact ih (t + 1) H locs L ls (by omega) hP hD hSh hS (by first | exact hl | simpa [Nat.add_assoc, Nat.mul_add, Nat.add_comm] using hl)
  have hl := lv_sub hl (l' := [(0, .ref (aw_c ad j 10)), (1, .long b), (3, .int x1), (4, .int x2), (5, .int (nI 43))]) [3, 4, 2, 1, 0] rfl
  have g0 : x1 = (v_Si_backV_L15 zA j b 0).1 := by subst ex2 ex1; (rw [v_Si_backV_L15_z]) <;> rfl
  have g1 : x2 = (v_Si_backV_L15 zA j b 0).2 := by subst ex2 ex1; (rw [v_Si_backV_L15_z]) <;> rfl
  have hl : lv_has ls 7 [(0, .ref (aw_c ad j 10)), (1, .long b), (3, .int ((v_Si_backV_L15 zA j b 0).1)), (4, .int ((v_Si_backV_L15 zA j b 0).2)), (5, .int (nI 43))] := by rw [← g0, ← g1]; exact hl
  exact L15 44 0 _ _ L ls (by omega) hP hD hSh hS (by first | exact hl | simpa using hl)
