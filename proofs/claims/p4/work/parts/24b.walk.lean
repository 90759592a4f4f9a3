noncomputable def v_Mo_onFourV_L30 (zI : Nat → Nat → Int32) (b : Int64) (t : Nat) : Int32 × Int32 × Int32 × Int32 := Nat.rec (motive := fun _ => Int32 × Int32 × Int32 × Int32) (v_Mo_partV b (nI 0), v_Mo_partV b (nI 1), v_Mo_partV b (nI 2), v_Mo_partV b (nI 3)) (fun t s => (((v_Mo_timesV (s.1) (zI 15 (6 * t))) ^^^ (v_Mo_timesV (((v_Mo_timesV ((v_Mo_timesV (s.1) (zI 15 (6 * t))) ^^^ (((s.2.2.1) + (zI 15 ((6 * t) + 2))) &&& 65535)) (zI 15 ((6 * t) + 4))) + ((((s.2.1) + (zI 15 ((6 * t) + 1))) &&& 65535) ^^^ (v_Mo_timesV (s.2.2.2) (zI 15 ((6 * t) + 3))))) &&& 65535) (zI 15 ((6 * t) + 5)))), ((((s.2.2.1) + (zI 15 ((6 * t) + 2))) &&& 65535) ^^^ (v_Mo_timesV (((v_Mo_timesV ((v_Mo_timesV (s.1) (zI 15 (6 * t))) ^^^ (((s.2.2.1) + (zI 15 ((6 * t) + 2))) &&& 65535)) (zI 15 ((6 * t) + 4))) + ((((s.2.1) + (zI 15 ((6 * t) + 1))) &&& 65535) ^^^ (v_Mo_timesV (s.2.2.2) (zI 15 ((6 * t) + 3))))) &&& 65535) (zI 15 ((6 * t) + 5)))), ((((s.2.1) + (zI 15 ((6 * t) + 1))) &&& 65535) ^^^ (((v_Mo_timesV ((v_Mo_timesV (s.1) (zI 15 (6 * t))) ^^^ (((s.2.2.1) + (zI 15 ((6 * t) + 2))) &&& 65535)) (zI 15 ((6 * t) + 4))) + (v_Mo_timesV (((v_Mo_timesV ((v_Mo_timesV (s.1) (zI 15 (6 * t))) ^^^ (((s.2.2.1) + (zI 15 ((6 * t) + 2))) &&& 65535)) (zI 15 ((6 * t) + 4))) + ((((s.2.1) + (zI 15 ((6 * t) + 1))) &&& 65535) ^^^ (v_Mo_timesV (s.2.2.2) (zI 15 ((6 * t) + 3))))) &&& 65535) (zI 15 ((6 * t) + 5)))) &&& 65535)), ((v_Mo_timesV (s.2.2.2) (zI 15 ((6 * t) + 3))) ^^^ (((v_Mo_timesV ((v_Mo_timesV (s.1) (zI 15 (6 * t))) ^^^ (((s.2.2.1) + (zI 15 ((6 * t) + 2))) &&& 65535)) (zI 15 ((6 * t) + 4))) + (v_Mo_timesV (((v_Mo_timesV ((v_Mo_timesV (s.1) (zI 15 (6 * t))) ^^^ (((s.2.2.1) + (zI 15 ((6 * t) + 2))) &&& 65535)) (zI 15 ((6 * t) + 4))) + ((((s.2.1) + (zI 15 ((6 * t) + 1))) &&& 65535) ^^^ (v_Mo_timesV (s.2.2.2) (zI 15 ((6 * t) + 3))))) &&& 65535) (zI 15 ((6 * t) + 5)))) &&& 65535)))) t
theorem v_Mo_onFourV_L30_z (zI : Nat → Nat → Int32) (b : Int64) : v_Mo_onFourV_L30 zI b 0 = (v_Mo_partV b (nI 0), v_Mo_partV b (nI 1), v_Mo_partV b (nI 2), v_Mo_partV b (nI 3)) := rfl
theorem v_Mo_onFourV_L30_s (zI : Nat → Nat → Int32) (b : Int64) (t : Nat) : v_Mo_onFourV_L30 zI b (t + 1) = (((v_Mo_timesV ((v_Mo_onFourV_L30 zI b t).1) (zI 15 (6 * t))) ^^^ (v_Mo_timesV (((v_Mo_timesV ((v_Mo_timesV ((v_Mo_onFourV_L30 zI b t).1) (zI 15 (6 * t))) ^^^ ((((v_Mo_onFourV_L30 zI b t).2.2.1) + (zI 15 ((6 * t) + 2))) &&& 65535)) (zI 15 ((6 * t) + 4))) + (((((v_Mo_onFourV_L30 zI b t).2.1) + (zI 15 ((6 * t) + 1))) &&& 65535) ^^^ (v_Mo_timesV ((v_Mo_onFourV_L30 zI b t).2.2.2) (zI 15 ((6 * t) + 3))))) &&& 65535) (zI 15 ((6 * t) + 5)))), (((((v_Mo_onFourV_L30 zI b t).2.2.1) + (zI 15 ((6 * t) + 2))) &&& 65535) ^^^ (v_Mo_timesV (((v_Mo_timesV ((v_Mo_timesV ((v_Mo_onFourV_L30 zI b t).1) (zI 15 (6 * t))) ^^^ ((((v_Mo_onFourV_L30 zI b t).2.2.1) + (zI 15 ((6 * t) + 2))) &&& 65535)) (zI 15 ((6 * t) + 4))) + (((((v_Mo_onFourV_L30 zI b t).2.1) + (zI 15 ((6 * t) + 1))) &&& 65535) ^^^ (v_Mo_timesV ((v_Mo_onFourV_L30 zI b t).2.2.2) (zI 15 ((6 * t) + 3))))) &&& 65535) (zI 15 ((6 * t) + 5)))), (((((v_Mo_onFourV_L30 zI b t).2.1) + (zI 15 ((6 * t) + 1))) &&& 65535) ^^^ (((v_Mo_timesV ((v_Mo_timesV ((v_Mo_onFourV_L30 zI b t).1) (zI 15 (6 * t))) ^^^ ((((v_Mo_onFourV_L30 zI b t).2.2.1) + (zI 15 ((6 * t) + 2))) &&& 65535)) (zI 15 ((6 * t) + 4))) + (v_Mo_timesV (((v_Mo_timesV ((v_Mo_timesV ((v_Mo_onFourV_L30 zI b t).1) (zI 15 (6 * t))) ^^^ ((((v_Mo_onFourV_L30 zI b t).2.2.1) + (zI 15 ((6 * t) + 2))) &&& 65535)) (zI 15 ((6 * t) + 4))) + (((((v_Mo_onFourV_L30 zI b t).2.1) + (zI 15 ((6 * t) + 1))) &&& 65535) ^^^ (v_Mo_timesV ((v_Mo_onFourV_L30 zI b t).2.2.2) (zI 15 ((6 * t) + 3))))) &&& 65535) (zI 15 ((6 * t) + 5)))) &&& 65535)), ((v_Mo_timesV ((v_Mo_onFourV_L30 zI b t).2.2.2) (zI 15 ((6 * t) + 3))) ^^^ (((v_Mo_timesV ((v_Mo_timesV ((v_Mo_onFourV_L30 zI b t).1) (zI 15 (6 * t))) ^^^ ((((v_Mo_onFourV_L30 zI b t).2.2.1) + (zI 15 ((6 * t) + 2))) &&& 65535)) (zI 15 ((6 * t) + 4))) + (v_Mo_timesV (((v_Mo_timesV ((v_Mo_timesV ((v_Mo_onFourV_L30 zI b t).1) (zI 15 (6 * t))) ^^^ ((((v_Mo_onFourV_L30 zI b t).2.2.1) + (zI 15 ((6 * t) + 2))) &&& 65535)) (zI 15 ((6 * t) + 4))) + (((((v_Mo_onFourV_L30 zI b t).2.1) + (zI 15 ((6 * t) + 1))) &&& 65535) ^^^ (v_Mo_timesV ((v_Mo_onFourV_L30 zI b t).2.2.2) (zI 15 ((6 * t) + 3))))) &&& 65535) (zI 15 ((6 * t) + 5)))) &&& 65535))) := rfl
noncomputable def v_Mo_onFourV (zI : Nat → Nat → Int32) (b : Int64) : Int64 := v_Mo_fourV (v_Mo_timesV ((v_Mo_onFourV_L30 zI b 8).1) (zI 15 48)) (v_Mo_sumV ((v_Mo_onFourV_L30 zI b 8).2.2.1) (zI 15 49)) (v_Mo_sumV ((v_Mo_onFourV_L30 zI b 8).2.1) (zI 15 50)) (v_Mo_timesV ((v_Mo_onFourV_L30 zI b 8).2.2.2) (zI 15 51))
abbrev ws_Mo_onFourV : List Cond := Cond.code y_Mo_onFour b_Mo_onFour 12 (some .long) :: aw_G
abbrev rm_Mo_onFourV : Room := { frames := 1, cells := 0, slots := 0, locals := 25 }
set_option maxHeartbeats 4000000 in
set_option maxRecDepth 100000 in
theorem k_Mo_onFourV (l : Launch) (D : va_G) (g : Nat → ClassId) (ad : Nat → Nat) (N0 : Nat) (zG : Nat → Nat × Nat) (zO : Nat → Nat) (zX : Nat → Nat → Int64) (zY : Nat → Nat → Int32) (zA : Nat → Nat → Nat → Int32) (zB : Nat → Int32) (zM : Nat → Nat × Nat) (zI : Nat → Nat → Int32) (zL : Nat → Nat → Int64) (zK : Int32) (zN : Nat) (zF : Int32) (zQ : Int64) (b : Int64) : Met l y_Mo_onFour ws_Mo_onFourV rm_Mo_onFourV (va_Pc ([.ref (aw_m ad 0), .long b] : List Value) (ag_B D g N0 (az_Sh g ad zG zO zX zY zA zB zM zI zL zK zN zF zQ))) (va_Ql (fun r (_ : Unit) => r = v_Mo_onFourV zI b) (fun (_ : Unit) t => ag_H D N0 (az_Sh g ad zG zO zX zY zA zB zM zI zL zK zN zF zQ) t.heap) (aw_Z N0)) 0 0 (aw_Z N0) := by
  refine Met.ofW (cc := b_Mo_onFour) (maxL := 12) (ret := (some .long)) (by decide) rfl ?_
  intro p e s m args below meth c s₁ B hml hv
  obtain ⟨rfl, ⟨L, hP, hD, hSh⟩, hU⟩ := hv
  have hx := B.exec
  have hb := B.bytes
  have hr := B.returns
  have hG : ∀ w ∈ aw_G, w.before _ s = true := fun w h => atoms_spec (ws := ws_Mo_onFourV) B.pre w (List.mem_cons_of_mem _ h)
  have hown : s.vm.findClass "RuleCiphersModel" = some m.cls := findClass_of_methodNamed B.named
  have hlocks := B.notSynchronized
  have hE := hU.1
  have hK := hE.1
  have hN := hE.2.1
  have hS : va_S (aw_Z N0) s.heap s.heap [] := va_S.rf
  have hl := lv_entry ([.ref (aw_m ad 0), .long b] : List Value) (n := 12) (Nat.le_of_ble_eq_true rfl)
  rw [lg_entry_eq]
  generalize (lg_sl ([.ref (aw_m ad 0), .long b] : List Value) ++ List.replicate (12 - (lg_sl ([.ref (aw_m ad 0), .long b] : List Value)).length) Slot.unset).toArray = ls at hl ⊢
  have hl : lv_has ls 12 [(0, .ref (aw_m ad 0)), (1, .long b)] := hl
  refine lv_lload_n hx hb d_Mo_onFour_0 rfl (lv_at hl 1 rfl) ?_
  refine lv_iconst (v := nI 0) hx hb d_Mo_onFour_1 (by decide +kernel) ?_
  refine aw_ci ((va_runS (As := [.long b, .int (nI 0)]) (rest := []) ⟨hx, hb, hml, hown, hG⟩ (k_Mo_partV l b (nI 0)) (aw_wS 2 hG gw_11_50 gw_11_48 gw_0_10 gw_11_49 rfl rfl hd_Mo_part ⟨Nat.le_of_ble_eq_true rfl, Nat.le_of_ble_eq_true rfl⟩) aw_p0 rfl rfl hl.1 rfl (lv_room (Nat.le_of_ble_eq_true rfl)) d_Mo_onFour_2 ⟨Nat.le_of_ble_eq_true rfl, Nat.le_of_ble_eq_true rfl⟩).run) (fun x1 ex1 => ?_)
  have ex1 := ex1.symm
  refine lv_istore_n hx hb d_Mo_onFour_5 rfl hl (by decide) rfl (fun ls hl => ?_)
  have hl : lv_has ls 12 [(3, .int x1), (0, .ref (aw_m ad 0)), (1, .long b)] := hl
  refine lv_lload_n hx hb d_Mo_onFour_6 rfl (lv_at hl 2 rfl) ?_
  refine lv_iconst (v := nI 1) hx hb d_Mo_onFour_7 (by decide +kernel) ?_
  refine aw_ci ((va_runS (As := [.long b, .int (nI 1)]) (rest := []) ⟨hx, hb, hml, hown, hG⟩ (k_Mo_partV l b (nI 1)) (aw_wS 2 hG gw_11_50 gw_11_48 gw_0_10 gw_11_49 rfl rfl hd_Mo_part ⟨Nat.le_of_ble_eq_true rfl, Nat.le_of_ble_eq_true rfl⟩) aw_p0 rfl rfl hl.1 rfl (lv_room (Nat.le_of_ble_eq_true rfl)) d_Mo_onFour_8 ⟨Nat.le_of_ble_eq_true rfl, Nat.le_of_ble_eq_true rfl⟩).run) (fun x2 ex2 => ?_)
  have ex2 := ex2.symm
  refine lv_istore hx hb d_Mo_onFour_11 hl (by decide) rfl (fun ls hl => ?_)
  have hl : lv_has ls 12 [(4, .int x2), (3, .int x1), (0, .ref (aw_m ad 0)), (1, .long b)] := hl
  refine lv_lload_n hx hb d_Mo_onFour_13 rfl (lv_at hl 3 rfl) ?_
  refine lv_iconst (v := nI 2) hx hb d_Mo_onFour_14 (by decide +kernel) ?_
  refine aw_ci ((va_runS (As := [.long b, .int (nI 2)]) (rest := []) ⟨hx, hb, hml, hown, hG⟩ (k_Mo_partV l b (nI 2)) (aw_wS 2 hG gw_11_50 gw_11_48 gw_0_10 gw_11_49 rfl rfl hd_Mo_part ⟨Nat.le_of_ble_eq_true rfl, Nat.le_of_ble_eq_true rfl⟩) aw_p0 rfl rfl hl.1 rfl (lv_room (Nat.le_of_ble_eq_true rfl)) d_Mo_onFour_15 ⟨Nat.le_of_ble_eq_true rfl, Nat.le_of_ble_eq_true rfl⟩).run) (fun x3 ex3 => ?_)
  have ex3 := ex3.symm
  refine lv_istore hx hb d_Mo_onFour_18 hl (by decide) rfl (fun ls hl => ?_)
  have hl : lv_has ls 12 [(5, .int x3), (4, .int x2), (3, .int x1), (0, .ref (aw_m ad 0)), (1, .long b)] := hl
  refine lv_lload_n hx hb d_Mo_onFour_20 rfl (lv_at hl 4 rfl) ?_
  refine lv_iconst (v := nI 3) hx hb d_Mo_onFour_21 (by decide +kernel) ?_
  refine aw_ci ((va_runS (As := [.long b, .int (nI 3)]) (rest := []) ⟨hx, hb, hml, hown, hG⟩ (k_Mo_partV l b (nI 3)) (aw_wS 2 hG gw_11_50 gw_11_48 gw_0_10 gw_11_49 rfl rfl hd_Mo_part ⟨Nat.le_of_ble_eq_true rfl, Nat.le_of_ble_eq_true rfl⟩) aw_p0 rfl rfl hl.1 rfl (lv_room (Nat.le_of_ble_eq_true rfl)) d_Mo_onFour_22 ⟨Nat.le_of_ble_eq_true rfl, Nat.le_of_ble_eq_true rfl⟩).run) (fun x4 ex4 => ?_)
  have ex4 := ex4.symm
  refine lv_istore hx hb d_Mo_onFour_25 hl (by decide) rfl (fun ls hl => ?_)
  have hl : lv_has ls 12 [(6, .int x4), (5, .int x3), (4, .int x2), (3, .int x1), (0, .ref (aw_m ad 0)), (1, .long b)] := hl
  refine lv_iconst (v := nI 0) hx hb d_Mo_onFour_27 (by decide +kernel) ?_
  refine lv_istore hx hb d_Mo_onFour_28 hl (by decide) rfl (fun ls hl => ?_)
  have hl : lv_has ls 12 [(7, .int (nI 0)), (6, .int x4), (5, .int x3), (4, .int x2), (3, .int x1), (0, .ref (aw_m ad 0)), (1, .long b)] := hl
  have L30 : ∀ (d t : Nat) (H : Heap) (locs : List Loc) (L : va_W) (ls : Array Slot), t + d = 8 → va_P D aw_C L H → va_D (aw_Z N0) L → az_Sh g ad zG zO zX zY zA zB zM zI zL zK zN zF zQ L → va_S (aw_Z N0) s.heap H locs → lv_has ls 12 [(0, .ref (aw_m ad 0)), (1, .long b), (3, .int ((v_Mo_onFourV_L30 zI b t).1)), (4, .int ((v_Mo_onFourV_L30 zI b t).2.1)), (5, .int ((v_Mo_onFourV_L30 zI b t).2.2.1)), (6, .int ((v_Mo_onFourV_L30 zI b t).2.2.2)), (7, .int (nI (6 * t)))] → W p l e (headSpec ws_Mo_onFourV rm_Mo_onFourV).room s m ([.ref (aw_m ad 0), .long b] : List Value).toArray below meth c H locs 0 0 (MQ below (va_Ql (fun r (_ : Unit) => r = v_Mo_onFourV zI b) (fun (_ : Unit) t => ag_H D N0 (az_Sh g ad zG zO zX zY zA zB zM zI zL zK zN zF zQ) t.heap) (aw_Z N0)) ([.ref (aw_m ad 0), .long b] : List Value).toArray s 0 0 (aw_Z N0)) (F0 m 30 ls []) := by
    clear hl hP hD hSh hS
    intro d
    induction d with
    | zero =>
      intro t H locs L ls ht0 hP hD hSh hS hl
      have ht1 : t = 8 := by omega
      subst ht1
      refine lv_iload hx hb d_Mo_onFour_30 (lv_at hl 6 rfl) ?_
      refine lv_bipush (v := nI 48) hx hb d_Mo_onFour_32 (by decide +kernel) ?_
      refine lv_icmp_ge (tgt := 188) hx hb d_Mo_onFour_34 (by decide) (fun _ => ?_) (fun h => absurd (show nI 48 ≤ nI (6 * 8) from (nI_leI (by omega) (by omega)).mpr (by omega)) h)
      refine lv_iload_n hx hb d_Mo_onFour_188 rfl (lv_at hl 2 rfl) ?_
      refine lv_aload_n hx hb d_Mo_onFour_189 rfl (lv_at hl 0 rfl) ?_
      obtain ⟨hsd6, he5⟩ := zr_M0 hSh
      refine va_get (C := R_Mo) (T := T_Mo) (N := 19) (v := .ref (aw_m ad 15)) hx hb hG in_Mo hown hK hP 67 he5 rfl 17 (by decide) (hG _ gw_9_42) (fun _ h => h) rfl d_Mo_onFour_190 ?_
      clear he5
      refine lv_bipush (v := nI 48) hx hb d_Mo_onFour_193 (by decide +kernel) ?_
      have he7 := zr_M15 hSh
      refine aw_ild hx hb hK hP 82 0 he7 rfl (k := 48) (by omega) (by decide) d_Mo_onFour_195 ?_
      clear he7
      refine ag_topi (fun x8 ex8 => ?_)
      refine aw_ci ((va_runS (As := [.int ((v_Mo_onFourV_L30 zI b 8).1), .int x8]) (rest := []) ⟨hx, hb, hml, hown, hG⟩ (k_Mo_timesV l ((v_Mo_onFourV_L30 zI b 8).1) x8) (aw_wS 2 hG gw_11_56 gw_11_54 gw_0_10 gw_11_55 rfl rfl hd_Mo_times ⟨Nat.le_of_ble_eq_true rfl, Nat.le_of_ble_eq_true rfl⟩) aw_p0 rfl rfl hl.1 rfl (lv_room (Nat.le_of_ble_eq_true rfl)) d_Mo_onFour_196 ⟨Nat.le_of_ble_eq_true rfl, Nat.le_of_ble_eq_true rfl⟩).run) (fun x9 ex9 => ?_)
      have ex9 := ex9.symm
      refine lv_iload hx hb d_Mo_onFour_199 (lv_at hl 4 rfl) ?_
      refine lv_aload_n hx hb d_Mo_onFour_201 rfl (lv_at hl 0 rfl) ?_
      obtain ⟨hsd11, he10⟩ := zr_M0 hSh
      refine va_get (C := R_Mo) (T := T_Mo) (N := 19) (v := .ref (aw_m ad 15)) hx hb hG in_Mo hown hK hP 67 he10 rfl 17 (by decide) (hG _ gw_9_42) (fun _ h => h) rfl d_Mo_onFour_202 ?_
      clear he10
      refine lv_bipush (v := nI 49) hx hb d_Mo_onFour_205 (by decide +kernel) ?_
      have he12 := zr_M15 hSh
      refine aw_ild hx hb hK hP 82 0 he12 rfl (k := 49) (by omega) (by decide) d_Mo_onFour_207 ?_
      clear he12
      refine ag_topi (fun x13 ex13 => ?_)
      refine aw_ci ((va_runS (As := [.int ((v_Mo_onFourV_L30 zI b 8).2.2.1), .int x13]) (rest := [.int x9]) ⟨hx, hb, hml, hown, hG⟩ (k_Mo_sumV l ((v_Mo_onFourV_L30 zI b 8).2.2.1) x13) (aw_wS 2 hG gw_12_10 gw_12_8 gw_0_10 gw_12_9 rfl rfl hd_Mo_sum ⟨Nat.le_of_ble_eq_true rfl, Nat.le_of_ble_eq_true rfl⟩) aw_p0 rfl rfl hl.1 rfl (lv_room (Nat.le_of_ble_eq_true rfl)) d_Mo_onFour_208 ⟨Nat.le_of_ble_eq_true rfl, Nat.le_of_ble_eq_true rfl⟩).run) (fun x14 ex14 => ?_)
      have ex14 := ex14.symm
      refine lv_iload hx hb d_Mo_onFour_211 (lv_at hl 3 rfl) ?_
      refine lv_aload_n hx hb d_Mo_onFour_213 rfl (lv_at hl 0 rfl) ?_
      obtain ⟨hsd16, he15⟩ := zr_M0 hSh
      refine va_get (C := R_Mo) (T := T_Mo) (N := 19) (v := .ref (aw_m ad 15)) hx hb hG in_Mo hown hK hP 67 he15 rfl 17 (by decide) (hG _ gw_9_42) (fun _ h => h) rfl d_Mo_onFour_214 ?_
      clear he15
      refine lv_bipush (v := nI 50) hx hb d_Mo_onFour_217 (by decide +kernel) ?_
      have he17 := zr_M15 hSh
      refine aw_ild hx hb hK hP 82 0 he17 rfl (k := 50) (by omega) (by decide) d_Mo_onFour_219 ?_
      clear he17
      refine ag_topi (fun x18 ex18 => ?_)
      refine aw_ci ((va_runS (As := [.int ((v_Mo_onFourV_L30 zI b 8).2.1), .int x18]) (rest := [.int x14, .int x9]) ⟨hx, hb, hml, hown, hG⟩ (k_Mo_sumV l ((v_Mo_onFourV_L30 zI b 8).2.1) x18) (aw_wS 2 hG gw_12_10 gw_12_8 gw_0_10 gw_12_9 rfl rfl hd_Mo_sum ⟨Nat.le_of_ble_eq_true rfl, Nat.le_of_ble_eq_true rfl⟩) aw_p0 rfl rfl hl.1 rfl (lv_room (Nat.le_of_ble_eq_true rfl)) d_Mo_onFour_220 ⟨Nat.le_of_ble_eq_true rfl, Nat.le_of_ble_eq_true rfl⟩).run) (fun x19 ex19 => ?_)
      have ex19 := ex19.symm
      refine lv_iload hx hb d_Mo_onFour_223 (lv_at hl 5 rfl) ?_
      refine lv_aload_n hx hb d_Mo_onFour_225 rfl (lv_at hl 0 rfl) ?_
      obtain ⟨hsd21, he20⟩ := zr_M0 hSh
      refine va_get (C := R_Mo) (T := T_Mo) (N := 19) (v := .ref (aw_m ad 15)) hx hb hG in_Mo hown hK hP 67 he20 rfl 17 (by decide) (hG _ gw_9_42) (fun _ h => h) rfl d_Mo_onFour_226 ?_
      clear he20
      refine lv_bipush (v := nI 51) hx hb d_Mo_onFour_229 (by decide +kernel) ?_
      have he22 := zr_M15 hSh
      refine aw_ild hx hb hK hP 82 0 he22 rfl (k := 51) (by omega) (by decide) d_Mo_onFour_231 ?_
      clear he22
      refine ag_topi (fun x23 ex23 => ?_)
      refine aw_ci ((va_runS (As := [.int ((v_Mo_onFourV_L30 zI b 8).2.2.2), .int x23]) (rest := [.int x19, .int x14, .int x9]) ⟨hx, hb, hml, hown, hG⟩ (k_Mo_timesV l ((v_Mo_onFourV_L30 zI b 8).2.2.2) x23) (aw_wS 2 hG gw_11_56 gw_11_54 gw_0_10 gw_11_55 rfl rfl hd_Mo_times ⟨Nat.le_of_ble_eq_true rfl, Nat.le_of_ble_eq_true rfl⟩) aw_p0 rfl rfl hl.1 rfl (lv_room (Nat.le_of_ble_eq_true rfl)) d_Mo_onFour_232 ⟨Nat.le_of_ble_eq_true rfl, Nat.le_of_ble_eq_true rfl⟩).run) (fun x24 ex24 => ?_)
      have ex24 := ex24.symm
      refine aw_cl ((va_runS (As := [.int x9, .int x14, .int x19, .int x24]) (rest := []) ⟨hx, hb, hml, hown, hG⟩ (k_Mo_fourV l x9 x14 x19 x24) (aw_wS 4 hG gw_12_1 gw_11_59 gw_0_10 gw_12_0 rfl rfl hd_Mo_four ⟨Nat.le_of_ble_eq_true rfl, Nat.le_of_ble_eq_true rfl⟩) aw_p0 rfl rfl hl.1 rfl (lv_room (Nat.le_of_ble_eq_true rfl)) d_Mo_onFour_235 ⟨Nat.le_of_ble_eq_true rfl, Nat.le_of_ble_eq_true rfl⟩).run) (fun y25 ey25 => ?_)
      have ey25 := ey25.symm
      exact W.lret hx hb hr (fun t ht hW => ⟨⟨_, (), rfl, (by subst ey25 ex24 ex23 ex19 ex18 ex14 ex13 ex9 ex8 ex4 ex3 ex2 ex1; rfl), ag_Hr ht hP hD hSh⟩, hS.F ht⟩) hS.2.2 d_Mo_onFour_238
    | succ d ih =>
      intro t H locs L ls ht0 hP hD hSh hS hl
      refine lv_iload hx hb d_Mo_onFour_30 (lv_at hl 6 rfl) ?_
      refine lv_bipush (v := nI 48) hx hb d_Mo_onFour_32 (by decide +kernel) ?_
      refine lv_icmp_ge (tgt := 188) hx hb d_Mo_onFour_34 (by decide) (fun h => absurd h (show ¬ nI 48 ≤ nI (6 * t) from fun h9 => absurd ((nI_leI (by omega) (by omega)).mp h9) (by omega))) (fun _ => ?_)
      refine lv_iload_n hx hb d_Mo_onFour_37 rfl (lv_at hl 2 rfl) ?_
      refine lv_aload_n hx hb d_Mo_onFour_38 rfl (lv_at hl 0 rfl) ?_
      obtain ⟨hsd27, he26⟩ := zr_M0 hSh
      refine va_get (C := R_Mo) (T := T_Mo) (N := 19) (v := .ref (aw_m ad 15)) hx hb hG in_Mo hown hK hP 67 he26 rfl 17 (by decide) (hG _ gw_9_42) (fun _ h => h) rfl d_Mo_onFour_39 ?_
      clear he26
      refine lv_iload hx hb d_Mo_onFour_42 (lv_at hl 6 rfl) ?_
      have he28 := zr_M15 hSh
      refine aw_ild hx hb hK hP 82 0 he28 rfl (k := (6 * t)) (by omega) (by decide) d_Mo_onFour_44 ?_
      clear he28
      refine ag_topi (fun x29 ex29 => ?_)
      refine aw_ci ((va_runS (As := [.int ((v_Mo_onFourV_L30 zI b t).1), .int x29]) (rest := []) ⟨hx, hb, hml, hown, hG⟩ (k_Mo_timesV l ((v_Mo_onFourV_L30 zI b t).1) x29) (aw_wS 2 hG gw_11_56 gw_11_54 gw_0_10 gw_11_55 rfl rfl hd_Mo_times ⟨Nat.le_of_ble_eq_true rfl, Nat.le_of_ble_eq_true rfl⟩) aw_p0 rfl rfl hl.1 rfl (lv_room (Nat.le_of_ble_eq_true rfl)) d_Mo_onFour_45 ⟨Nat.le_of_ble_eq_true rfl, Nat.le_of_ble_eq_true rfl⟩).run) (fun x30 ex30 => ?_)
      have ex30 := ex30.symm
      refine lv_istore_n hx hb d_Mo_onFour_48 rfl hl (by decide) rfl (fun ls hl => ?_)
      have hl : lv_has ls 12 [(3, .int x30), (0, .ref (aw_m ad 0)), (1, .long b), (4, .int ((v_Mo_onFourV_L30 zI b t).2.1)), (5, .int ((v_Mo_onFourV_L30 zI b t).2.2.1)), (6, .int ((v_Mo_onFourV_L30 zI b t).2.2.2)), (7, .int (nI (6 * t)))] := hl
      refine lv_iload hx hb d_Mo_onFour_49 (lv_at hl 3 rfl) ?_
      refine lv_aload_n hx hb d_Mo_onFour_51 rfl (lv_at hl 1 rfl) ?_
      obtain ⟨hsd32, he31⟩ := zr_M0 hSh
      refine va_get (C := R_Mo) (T := T_Mo) (N := 19) (v := .ref (aw_m ad 15)) hx hb hG in_Mo hown hK hP 67 he31 rfl 17 (by decide) (hG _ gw_9_42) (fun _ h => h) rfl d_Mo_onFour_52 ?_
      clear he31
      refine lv_iload hx hb d_Mo_onFour_55 (lv_at hl 6 rfl) ?_
      refine lv_iconst (v := nI 1) hx hb d_Mo_onFour_57 (by decide +kernel) ?_
      refine lv_iadd hx hb d_Mo_onFour_58 ?_
      refine aw_ti (nI_add (6 * t) 1) ?_
      have he33 := zr_M15 hSh
      refine aw_ild hx hb hK hP 82 0 he33 rfl (k := ((6 * t) + 1)) (by omega) (by decide) d_Mo_onFour_59 ?_
      clear he33
      refine ag_topi (fun x34 ex34 => ?_)
      refine lv_iadd hx hb d_Mo_onFour_60 ?_
      refine ag_topi (fun x35 ex35 => ?_)
      refine lv_ldc (v := 65535) hx hb hown (hG _ gw_11_36) d_Mo_onFour_61 ?_
      refine lv_iand hx hb d_Mo_onFour_63 ?_
      refine ag_topi (fun x36 ex36 => ?_)
      refine lv_istore hx hb d_Mo_onFour_64 hl (by decide) rfl (fun ls hl => ?_)
      have hl : lv_has ls 12 [(4, .int x36), (3, .int x30), (0, .ref (aw_m ad 0)), (1, .long b), (5, .int ((v_Mo_onFourV_L30 zI b t).2.2.1)), (6, .int ((v_Mo_onFourV_L30 zI b t).2.2.2)), (7, .int (nI (6 * t)))] := hl
      refine lv_iload hx hb d_Mo_onFour_66 (lv_at hl 4 rfl) ?_
      refine lv_aload_n hx hb d_Mo_onFour_68 rfl (lv_at hl 2 rfl) ?_
      obtain ⟨hsd38, he37⟩ := zr_M0 hSh
      refine va_get (C := R_Mo) (T := T_Mo) (N := 19) (v := .ref (aw_m ad 15)) hx hb hG in_Mo hown hK hP 67 he37 rfl 17 (by decide) (hG _ gw_9_42) (fun _ h => h) rfl d_Mo_onFour_69 ?_
      clear he37
      refine lv_iload hx hb d_Mo_onFour_72 (lv_at hl 6 rfl) ?_
      refine lv_iconst (v := nI 2) hx hb d_Mo_onFour_74 (by decide +kernel) ?_
      refine lv_iadd hx hb d_Mo_onFour_75 ?_
      refine aw_ti (nI_add (6 * t) 2) ?_
      have he39 := zr_M15 hSh
      refine aw_ild hx hb hK hP 82 0 he39 rfl (k := ((6 * t) + 2)) (by omega) (by decide) d_Mo_onFour_76 ?_
      clear he39
      refine ag_topi (fun x40 ex40 => ?_)
      refine lv_iadd hx hb d_Mo_onFour_77 ?_
      refine ag_topi (fun x41 ex41 => ?_)
      refine lv_ldc (v := 65535) hx hb hown (hG _ gw_11_36) d_Mo_onFour_78 ?_
      refine lv_iand hx hb d_Mo_onFour_80 ?_
      refine ag_topi (fun x42 ex42 => ?_)
      refine lv_istore hx hb d_Mo_onFour_81 hl (by decide) rfl (fun ls hl => ?_)
      have hl : lv_has ls 12 [(5, .int x42), (4, .int x36), (3, .int x30), (0, .ref (aw_m ad 0)), (1, .long b), (6, .int ((v_Mo_onFourV_L30 zI b t).2.2.2)), (7, .int (nI (6 * t)))] := hl
      refine lv_iload hx hb d_Mo_onFour_83 (lv_at hl 5 rfl) ?_
      refine lv_aload_n hx hb d_Mo_onFour_85 rfl (lv_at hl 3 rfl) ?_
      obtain ⟨hsd44, he43⟩ := zr_M0 hSh
      refine va_get (C := R_Mo) (T := T_Mo) (N := 19) (v := .ref (aw_m ad 15)) hx hb hG in_Mo hown hK hP 67 he43 rfl 17 (by decide) (hG _ gw_9_42) (fun _ h => h) rfl d_Mo_onFour_86 ?_
      clear he43
      refine lv_iload hx hb d_Mo_onFour_89 (lv_at hl 6 rfl) ?_
      refine lv_iconst (v := nI 3) hx hb d_Mo_onFour_91 (by decide +kernel) ?_
      refine lv_iadd hx hb d_Mo_onFour_92 ?_
      refine aw_ti (nI_add (6 * t) 3) ?_
      have he45 := zr_M15 hSh
      refine aw_ild hx hb hK hP 82 0 he45 rfl (k := ((6 * t) + 3)) (by omega) (by decide) d_Mo_onFour_93 ?_
      clear he45
      refine ag_topi (fun x46 ex46 => ?_)
      refine aw_ci ((va_runS (As := [.int ((v_Mo_onFourV_L30 zI b t).2.2.2), .int x46]) (rest := []) ⟨hx, hb, hml, hown, hG⟩ (k_Mo_timesV l ((v_Mo_onFourV_L30 zI b t).2.2.2) x46) (aw_wS 2 hG gw_11_56 gw_11_54 gw_0_10 gw_11_55 rfl rfl hd_Mo_times ⟨Nat.le_of_ble_eq_true rfl, Nat.le_of_ble_eq_true rfl⟩) aw_p0 rfl rfl hl.1 rfl (lv_room (Nat.le_of_ble_eq_true rfl)) d_Mo_onFour_94 ⟨Nat.le_of_ble_eq_true rfl, Nat.le_of_ble_eq_true rfl⟩).run) (fun x47 ex47 => ?_)
      have ex47 := ex47.symm
      refine lv_istore hx hb d_Mo_onFour_97 hl (by decide) rfl (fun ls hl => ?_)
      have hl : lv_has ls 12 [(6, .int x47), (5, .int x42), (4, .int x36), (3, .int x30), (0, .ref (aw_m ad 0)), (1, .long b), (7, .int (nI (6 * t)))] := hl
      refine lv_iload_n hx hb d_Mo_onFour_99 rfl (lv_at hl 3 rfl) ?_
      refine lv_iload hx hb d_Mo_onFour_100 (lv_at hl 1 rfl) ?_
      refine lv_ixor hx hb d_Mo_onFour_102 ?_
      refine ag_topi (fun x48 ex48 => ?_)
      refine lv_aload_n hx hb d_Mo_onFour_103 rfl (lv_at hl 4 rfl) ?_
      obtain ⟨hsd50, he49⟩ := zr_M0 hSh
      refine va_get (C := R_Mo) (T := T_Mo) (N := 19) (v := .ref (aw_m ad 15)) hx hb hG in_Mo hown hK hP 67 he49 rfl 17 (by decide) (hG _ gw_9_42) (fun _ h => h) rfl d_Mo_onFour_104 ?_
      clear he49
      refine lv_iload hx hb d_Mo_onFour_107 (lv_at hl 6 rfl) ?_
      refine lv_iconst (v := nI 4) hx hb d_Mo_onFour_109 (by decide +kernel) ?_
      refine lv_iadd hx hb d_Mo_onFour_110 ?_
      refine aw_ti (nI_add (6 * t) 4) ?_
      have he51 := zr_M15 hSh
      refine aw_ild hx hb hK hP 82 0 he51 rfl (k := ((6 * t) + 4)) (by omega) (by decide) d_Mo_onFour_111 ?_
      clear he51
      refine ag_topi (fun x52 ex52 => ?_)
      refine aw_ci ((va_runS (As := [.int x48, .int x52]) (rest := []) ⟨hx, hb, hml, hown, hG⟩ (k_Mo_timesV l x48 x52) (aw_wS 2 hG gw_11_56 gw_11_54 gw_0_10 gw_11_55 rfl rfl hd_Mo_times ⟨Nat.le_of_ble_eq_true rfl, Nat.le_of_ble_eq_true rfl⟩) aw_p0 rfl rfl hl.1 rfl (lv_room (Nat.le_of_ble_eq_true rfl)) d_Mo_onFour_112 ⟨Nat.le_of_ble_eq_true rfl, Nat.le_of_ble_eq_true rfl⟩).run) (fun x53 ex53 => ?_)
      have ex53 := ex53.symm
      refine lv_istore hx hb d_Mo_onFour_115 hl (by decide) rfl (fun ls hl => ?_)
      have hl : lv_has ls 12 [(8, .int x53), (6, .int x47), (5, .int x42), (4, .int x36), (3, .int x30), (0, .ref (aw_m ad 0)), (1, .long b), (7, .int (nI (6 * t)))] := hl
      refine lv_iload hx hb d_Mo_onFour_117 (lv_at hl 0 rfl) ?_
      refine lv_iload hx hb d_Mo_onFour_119 (lv_at hl 3 rfl) ?_
      refine lv_iload hx hb d_Mo_onFour_121 (lv_at hl 1 rfl) ?_
      refine lv_ixor hx hb d_Mo_onFour_123 ?_
      refine ag_topi (fun x54 ex54 => ?_)
      refine lv_iadd hx hb d_Mo_onFour_124 ?_
      refine ag_topi (fun x55 ex55 => ?_)
      refine lv_ldc (v := 65535) hx hb hown (hG _ gw_11_36) d_Mo_onFour_125 ?_
      refine lv_iand hx hb d_Mo_onFour_127 ?_
      refine ag_topi (fun x56 ex56 => ?_)
      refine lv_aload_n hx hb d_Mo_onFour_128 rfl (lv_at hl 5 rfl) ?_
      obtain ⟨hsd58, he57⟩ := zr_M0 hSh
      refine va_get (C := R_Mo) (T := T_Mo) (N := 19) (v := .ref (aw_m ad 15)) hx hb hG in_Mo hown hK hP 67 he57 rfl 17 (by decide) (hG _ gw_9_42) (fun _ h => h) rfl d_Mo_onFour_129 ?_
      clear he57
      refine lv_iload hx hb d_Mo_onFour_132 (lv_at hl 7 rfl) ?_
      refine lv_iconst (v := nI 5) hx hb d_Mo_onFour_134 (by decide +kernel) ?_
      refine lv_iadd hx hb d_Mo_onFour_135 ?_
      refine aw_ti (nI_add (6 * t) 5) ?_
      have he59 := zr_M15 hSh
      refine aw_ild hx hb hK hP 82 0 he59 rfl (k := ((6 * t) + 5)) (by omega) (by decide) d_Mo_onFour_136 ?_
      clear he59
      refine ag_topi (fun x60 ex60 => ?_)
      refine aw_ci ((va_runS (As := [.int x56, .int x60]) (rest := []) ⟨hx, hb, hml, hown, hG⟩ (k_Mo_timesV l x56 x60) (aw_wS 2 hG gw_11_56 gw_11_54 gw_0_10 gw_11_55 rfl rfl hd_Mo_times ⟨Nat.le_of_ble_eq_true rfl, Nat.le_of_ble_eq_true rfl⟩) aw_p0 rfl rfl hl.1 rfl (lv_room (Nat.le_of_ble_eq_true rfl)) d_Mo_onFour_137 ⟨Nat.le_of_ble_eq_true rfl, Nat.le_of_ble_eq_true rfl⟩).run) (fun x61 ex61 => ?_)
      have ex61 := ex61.symm
      refine lv_istore hx hb d_Mo_onFour_140 hl (by decide) rfl (fun ls hl => ?_)
      have hl : lv_has ls 12 [(9, .int x61), (8, .int x53), (6, .int x47), (5, .int x42), (4, .int x36), (3, .int x30), (0, .ref (aw_m ad 0)), (1, .long b), (7, .int (nI (6 * t)))] := hl
      refine lv_iload hx hb d_Mo_onFour_142 (lv_at hl 1 rfl) ?_
      refine lv_iload hx hb d_Mo_onFour_144 (lv_at hl 0 rfl) ?_
      refine lv_iadd hx hb d_Mo_onFour_146 ?_
      refine ag_topi (fun x62 ex62 => ?_)
      refine lv_ldc (v := 65535) hx hb hown (hG _ gw_11_36) d_Mo_onFour_147 ?_
      refine lv_iand hx hb d_Mo_onFour_149 ?_
      refine ag_topi (fun x63 ex63 => ?_)
      refine lv_istore hx hb d_Mo_onFour_150 hl (by decide) rfl (fun ls hl => ?_)
      have hl : lv_has ls 12 [(10, .int x63), (9, .int x61), (8, .int x53), (6, .int x47), (5, .int x42), (4, .int x36), (3, .int x30), (0, .ref (aw_m ad 0)), (1, .long b), (7, .int (nI (6 * t)))] := hl
      refine lv_iload hx hb d_Mo_onFour_152 (lv_at hl 5 rfl) ?_
      refine lv_istore hx hb d_Mo_onFour_154 hl (by decide) rfl (fun ls hl => ?_)
      have hl : lv_has ls 12 [(11, .int x36), (10, .int x63), (9, .int x61), (8, .int x53), (6, .int x47), (5, .int x42), (4, .int x36), (3, .int x30), (0, .ref (aw_m ad 0)), (1, .long b), (7, .int (nI (6 * t)))] := hl
      refine lv_iload_n hx hb d_Mo_onFour_156 rfl (lv_at hl 7 rfl) ?_
      refine lv_iload hx hb d_Mo_onFour_157 (lv_at hl 2 rfl) ?_
      refine lv_ixor hx hb d_Mo_onFour_159 ?_
      refine ag_topi (fun x64 ex64 => ?_)
      refine lv_istore_n hx hb d_Mo_onFour_160 rfl hl (by decide) rfl (fun ls hl => ?_)
      have hl : lv_has ls 12 [(3, .int x64), (11, .int x36), (10, .int x63), (9, .int x61), (8, .int x53), (6, .int x47), (5, .int x42), (4, .int x36), (0, .ref (aw_m ad 0)), (1, .long b), (7, .int (nI (6 * t)))] := hl
      refine lv_iload hx hb d_Mo_onFour_161 (lv_at hl 6 rfl) ?_
      refine lv_iload hx hb d_Mo_onFour_163 (lv_at hl 3 rfl) ?_
      refine lv_ixor hx hb d_Mo_onFour_165 ?_
      refine ag_topi (fun x65 ex65 => ?_)
      refine lv_istore hx hb d_Mo_onFour_166 hl (by decide) rfl (fun ls hl => ?_)
      have hl : lv_has ls 12 [(4, .int x65), (3, .int x64), (11, .int x36), (10, .int x63), (9, .int x61), (8, .int x53), (6, .int x47), (5, .int x42), (0, .ref (aw_m ad 0)), (1, .long b), (7, .int (nI (6 * t)))] := hl
      refine lv_iload hx hb d_Mo_onFour_168 (lv_at hl 2 rfl) ?_
      refine lv_iload hx hb d_Mo_onFour_170 (lv_at hl 3 rfl) ?_
      refine lv_ixor hx hb d_Mo_onFour_172 ?_
      refine ag_topi (fun x66 ex66 => ?_)
      refine lv_istore hx hb d_Mo_onFour_173 hl (by decide) rfl (fun ls hl => ?_)
      have hl : lv_has ls 12 [(5, .int x66), (4, .int x65), (3, .int x64), (11, .int x36), (10, .int x63), (9, .int x61), (8, .int x53), (6, .int x47), (0, .ref (aw_m ad 0)), (1, .long b), (7, .int (nI (6 * t)))] := hl
      refine lv_iload hx hb d_Mo_onFour_175 (lv_at hl 7 rfl) ?_
      refine lv_iload hx hb d_Mo_onFour_177 (lv_at hl 4 rfl) ?_
      refine lv_ixor hx hb d_Mo_onFour_179 ?_
      refine ag_topi (fun x67 ex67 => ?_)
      refine lv_istore hx hb d_Mo_onFour_180 hl (by decide) rfl (fun ls hl => ?_)
      have hl : lv_has ls 12 [(6, .int x67), (5, .int x66), (4, .int x65), (3, .int x64), (11, .int x36), (10, .int x63), (9, .int x61), (8, .int x53), (0, .ref (aw_m ad 0)), (1, .long b), (7, .int (nI (6 * t)))] := hl
      refine lv_iinc (k := 10) (v := nI (6 * t + 6)) hx hb d_Mo_onFour_182 hl rfl (aw_inc (6 * t) 6 6 (by decide +kernel)) (by decide) rfl (fun ls hl => ?_)
      have hl : lv_has ls 12 [(7, .int (nI (6 * t + 6))), (6, .int x67), (5, .int x66), (4, .int x65), (3, .int x64), (11, .int x36), (10, .int x63), (9, .int x61), (8, .int x53), (0, .ref (aw_m ad 0)), (1, .long b)] := hl
      refine lv_goto (tgt := 30) hx hb d_Mo_onFour_185 (by decide) ?_
      have hl := lv_sub hl (l' := [(0, .ref (aw_m ad 0)), (1, .long b), (3, .int x64), (4, .int x65), (5, .int x66), (6, .int x67), (7, .int (nI (6 * t + 6)))]) [9, 10, 4, 3, 2, 1, 0] rfl
      have g0 : x64 = (v_Mo_onFourV_L30 zI b (t + 1)).1 := by subst ex67 ex66 ex65 ex64 ex63 ex62 ex61 ex60 ex56 ex55 ex54 ex53 ex52 ex48 ex47 ex46 ex42 ex41 ex40 ex36 ex35 ex34 ex30 ex29 ex4 ex3 ex2 ex1; (rw [v_Mo_onFourV_L30_s]) <;> rfl
      have g1 : x65 = (v_Mo_onFourV_L30 zI b (t + 1)).2.1 := by subst ex67 ex66 ex65 ex64 ex63 ex62 ex61 ex60 ex56 ex55 ex54 ex53 ex52 ex48 ex47 ex46 ex42 ex41 ex40 ex36 ex35 ex34 ex30 ex29 ex4 ex3 ex2 ex1; (rw [v_Mo_onFourV_L30_s]) <;> rfl
      have g2 : x66 = (v_Mo_onFourV_L30 zI b (t + 1)).2.2.1 := by subst ex67 ex66 ex65 ex64 ex63 ex62 ex61 ex60 ex56 ex55 ex54 ex53 ex52 ex48 ex47 ex46 ex42 ex41 ex40 ex36 ex35 ex34 ex30 ex29 ex4 ex3 ex2 ex1; (rw [v_Mo_onFourV_L30_s]) <;> rfl
      have g3 : x67 = (v_Mo_onFourV_L30 zI b (t + 1)).2.2.2 := by subst ex67 ex66 ex65 ex64 ex63 ex62 ex61 ex60 ex56 ex55 ex54 ex53 ex52 ex48 ex47 ex46 ex42 ex41 ex40 ex36 ex35 ex34 ex30 ex29 ex4 ex3 ex2 ex1; (rw [v_Mo_onFourV_L30_s]) <;> rfl
      have hl : lv_has ls 12 [(0, .ref (aw_m ad 0)), (1, .long b), (3, .int ((v_Mo_onFourV_L30 zI b (t + 1)).1)), (4, .int ((v_Mo_onFourV_L30 zI b (t + 1)).2.1)), (5, .int ((v_Mo_onFourV_L30 zI b (t + 1)).2.2.1)), (6, .int ((v_Mo_onFourV_L30 zI b (t + 1)).2.2.2)), (7, .int (nI (6 * t + 6)))] := by rw [← g0, ← g1, ← g2, ← g3]; exact hl
      exact ih (t + 1) H locs L ls (by omega) hP hD hSh hS (by first | exact hl | simpa [Nat.add_assoc, Nat.mul_add, Nat.add_comm] using hl)
  have hl := lv_sub hl (l' := [(0, .ref (aw_m ad 0)), (1, .long b), (3, .int x1), (4, .int x2), (5, .int x3), (6, .int x4), (7, .int (nI 0))]) [5, 6, 4, 3, 2, 1, 0] rfl
  have g0 : x1 = (v_Mo_onFourV_L30 zI b 0).1 := by subst ex4 ex3 ex2 ex1; (rw [v_Mo_onFourV_L30_z]) <;> rfl
  have g1 : x2 = (v_Mo_onFourV_L30 zI b 0).2.1 := by subst ex4 ex3 ex2 ex1; (rw [v_Mo_onFourV_L30_z]) <;> rfl
  have g2 : x3 = (v_Mo_onFourV_L30 zI b 0).2.2.1 := by subst ex4 ex3 ex2 ex1; (rw [v_Mo_onFourV_L30_z]) <;> rfl
  have g3 : x4 = (v_Mo_onFourV_L30 zI b 0).2.2.2 := by subst ex4 ex3 ex2 ex1; (rw [v_Mo_onFourV_L30_z]) <;> rfl
  have hl : lv_has ls 12 [(0, .ref (aw_m ad 0)), (1, .long b), (3, .int ((v_Mo_onFourV_L30 zI b 0).1)), (4, .int ((v_Mo_onFourV_L30 zI b 0).2.1)), (5, .int ((v_Mo_onFourV_L30 zI b 0).2.2.1)), (6, .int ((v_Mo_onFourV_L30 zI b 0).2.2.2)), (7, .int (nI 0))] := by rw [← g0, ← g1, ← g2, ← g3]; exact hl
  exact L30 8 0 _ _ L ls (by omega) hP hD hSh hS (by first | exact hl | simpa using hl)
noncomputable def v_Mo_offFourV_L79 (zI : Nat → Nat → Int32) (b : Int64) (t : Nat) : Int32 × Int32 × Int32 × Int32 := Nat.rec (motive := fun _ => Int32 × Int32 × Int32 × Int32) (v_Mo_timesV (v_Mo_partV b (nI 0)) (v_Mo_inverseV (zI 15 48)), (((v_Mo_partV b (nI 2)) - (zI 15 50)) &&& 65535), (((v_Mo_partV b (nI 1)) - (zI 15 49)) &&& 65535), v_Mo_timesV (v_Mo_partV b (nI 3)) (v_Mo_inverseV (zI 15 51))) (fun t s => (v_Mo_timesV ((s.1) ^^^ (v_Mo_timesV (((v_Mo_timesV ((s.1) ^^^ (s.2.1)) (zI 15 ((6 * (7 - t)) + 4))) + ((s.2.2.1) ^^^ (s.2.2.2))) &&& 65535) (zI 15 ((6 * (7 - t)) + 5)))) (v_Mo_inverseV (zI 15 (6 * (7 - t)))), ((((s.2.2.1) ^^^ (((v_Mo_timesV ((s.1) ^^^ (s.2.1)) (zI 15 ((6 * (7 - t)) + 4))) + (v_Mo_timesV (((v_Mo_timesV ((s.1) ^^^ (s.2.1)) (zI 15 ((6 * (7 - t)) + 4))) + ((s.2.2.1) ^^^ (s.2.2.2))) &&& 65535) (zI 15 ((6 * (7 - t)) + 5)))) &&& 65535)) - (zI 15 ((6 * (7 - t)) + 1))) &&& 65535), ((((s.2.1) ^^^ (v_Mo_timesV (((v_Mo_timesV ((s.1) ^^^ (s.2.1)) (zI 15 ((6 * (7 - t)) + 4))) + ((s.2.2.1) ^^^ (s.2.2.2))) &&& 65535) (zI 15 ((6 * (7 - t)) + 5)))) - (zI 15 ((6 * (7 - t)) + 2))) &&& 65535), v_Mo_timesV ((s.2.2.2) ^^^ (((v_Mo_timesV ((s.1) ^^^ (s.2.1)) (zI 15 ((6 * (7 - t)) + 4))) + (v_Mo_timesV (((v_Mo_timesV ((s.1) ^^^ (s.2.1)) (zI 15 ((6 * (7 - t)) + 4))) + ((s.2.2.1) ^^^ (s.2.2.2))) &&& 65535) (zI 15 ((6 * (7 - t)) + 5)))) &&& 65535)) (v_Mo_inverseV (zI 15 ((6 * (7 - t)) + 3))))) t
theorem v_Mo_offFourV_L79_z (zI : Nat → Nat → Int32) (b : Int64) : v_Mo_offFourV_L79 zI b 0 = (v_Mo_timesV (v_Mo_partV b (nI 0)) (v_Mo_inverseV (zI 15 48)), (((v_Mo_partV b (nI 2)) - (zI 15 50)) &&& 65535), (((v_Mo_partV b (nI 1)) - (zI 15 49)) &&& 65535), v_Mo_timesV (v_Mo_partV b (nI 3)) (v_Mo_inverseV (zI 15 51))) := rfl
theorem v_Mo_offFourV_L79_s (zI : Nat → Nat → Int32) (b : Int64) (t : Nat) : v_Mo_offFourV_L79 zI b (t + 1) = (v_Mo_timesV (((v_Mo_offFourV_L79 zI b t).1) ^^^ (v_Mo_timesV (((v_Mo_timesV (((v_Mo_offFourV_L79 zI b t).1) ^^^ ((v_Mo_offFourV_L79 zI b t).2.1)) (zI 15 ((6 * (7 - t)) + 4))) + (((v_Mo_offFourV_L79 zI b t).2.2.1) ^^^ ((v_Mo_offFourV_L79 zI b t).2.2.2))) &&& 65535) (zI 15 ((6 * (7 - t)) + 5)))) (v_Mo_inverseV (zI 15 (6 * (7 - t)))), (((((v_Mo_offFourV_L79 zI b t).2.2.1) ^^^ (((v_Mo_timesV (((v_Mo_offFourV_L79 zI b t).1) ^^^ ((v_Mo_offFourV_L79 zI b t).2.1)) (zI 15 ((6 * (7 - t)) + 4))) + (v_Mo_timesV (((v_Mo_timesV (((v_Mo_offFourV_L79 zI b t).1) ^^^ ((v_Mo_offFourV_L79 zI b t).2.1)) (zI 15 ((6 * (7 - t)) + 4))) + (((v_Mo_offFourV_L79 zI b t).2.2.1) ^^^ ((v_Mo_offFourV_L79 zI b t).2.2.2))) &&& 65535) (zI 15 ((6 * (7 - t)) + 5)))) &&& 65535)) - (zI 15 ((6 * (7 - t)) + 1))) &&& 65535), (((((v_Mo_offFourV_L79 zI b t).2.1) ^^^ (v_Mo_timesV (((v_Mo_timesV (((v_Mo_offFourV_L79 zI b t).1) ^^^ ((v_Mo_offFourV_L79 zI b t).2.1)) (zI 15 ((6 * (7 - t)) + 4))) + (((v_Mo_offFourV_L79 zI b t).2.2.1) ^^^ ((v_Mo_offFourV_L79 zI b t).2.2.2))) &&& 65535) (zI 15 ((6 * (7 - t)) + 5)))) - (zI 15 ((6 * (7 - t)) + 2))) &&& 65535), v_Mo_timesV (((v_Mo_offFourV_L79 zI b t).2.2.2) ^^^ (((v_Mo_timesV (((v_Mo_offFourV_L79 zI b t).1) ^^^ ((v_Mo_offFourV_L79 zI b t).2.1)) (zI 15 ((6 * (7 - t)) + 4))) + (v_Mo_timesV (((v_Mo_timesV (((v_Mo_offFourV_L79 zI b t).1) ^^^ ((v_Mo_offFourV_L79 zI b t).2.1)) (zI 15 ((6 * (7 - t)) + 4))) + (((v_Mo_offFourV_L79 zI b t).2.2.1) ^^^ ((v_Mo_offFourV_L79 zI b t).2.2.2))) &&& 65535) (zI 15 ((6 * (7 - t)) + 5)))) &&& 65535)) (v_Mo_inverseV (zI 15 ((6 * (7 - t)) + 3)))) := rfl
noncomputable def v_Mo_offFourV (zI : Nat → Nat → Int32) (b : Int64) : Int64 := v_Mo_fourV ((v_Mo_offFourV_L79 zI b 8).1) ((v_Mo_offFourV_L79 zI b 8).2.1) ((v_Mo_offFourV_L79 zI b 8).2.2.1) ((v_Mo_offFourV_L79 zI b 8).2.2.2)
abbrev ws_Mo_offFourV : List Cond := Cond.code y_Mo_offFour b_Mo_offFour 12 (some .long) :: aw_G
abbrev rm_Mo_offFourV : Room := { frames := 2, cells := 0, slots := 0, locals := 47 }
set_option maxHeartbeats 4000000 in
set_option maxRecDepth 100000 in
theorem k_Mo_offFourV (l : Launch) (D : va_G) (g : Nat → ClassId) (ad : Nat → Nat) (N0 : Nat) (zG : Nat → Nat × Nat) (zO : Nat → Nat) (zX : Nat → Nat → Int64) (zY : Nat → Nat → Int32) (zA : Nat → Nat → Nat → Int32) (zB : Nat → Int32) (zM : Nat → Nat × Nat) (zI : Nat → Nat → Int32) (zL : Nat → Nat → Int64) (zK : Int32) (zN : Nat) (zF : Int32) (zQ : Int64) (b : Int64) : Met l y_Mo_offFour ws_Mo_offFourV rm_Mo_offFourV (va_Pc ([.ref (aw_m ad 0), .long b] : List Value) (ag_B D g N0 (az_Sh g ad zG zO zX zY zA zB zM zI zL zK zN zF zQ))) (va_Ql (fun r (_ : Unit) => r = v_Mo_offFourV zI b) (fun (_ : Unit) t => ag_H D N0 (az_Sh g ad zG zO zX zY zA zB zM zI zL zK zN zF zQ) t.heap) (aw_Z N0)) 0 0 (aw_Z N0) := by
  refine Met.ofW (cc := b_Mo_offFour) (maxL := 12) (ret := (some .long)) (by decide) rfl ?_
  intro p e s m args below meth c s₁ B hml hv
  obtain ⟨rfl, ⟨L, hP, hD, hSh⟩, hU⟩ := hv
  have hx := B.exec
  have hb := B.bytes
  have hr := B.returns
  have hG : ∀ w ∈ aw_G, w.before _ s = true := fun w h => atoms_spec (ws := ws_Mo_offFourV) B.pre w (List.mem_cons_of_mem _ h)
  have hown : s.vm.findClass "RuleCiphersModel" = some m.cls := findClass_of_methodNamed B.named
  have hlocks := B.notSynchronized
  have hE := hU.1
  have hK := hE.1
  have hN := hE.2.1
  have hS : va_S (aw_Z N0) s.heap s.heap [] := va_S.rf
  have hl := lv_entry ([.ref (aw_m ad 0), .long b] : List Value) (n := 12) (Nat.le_of_ble_eq_true rfl)
  rw [lg_entry_eq]
  generalize (lg_sl ([.ref (aw_m ad 0), .long b] : List Value) ++ List.replicate (12 - (lg_sl ([.ref (aw_m ad 0), .long b] : List Value)).length) Slot.unset).toArray = ls at hl ⊢
  have hl : lv_has ls 12 [(0, .ref (aw_m ad 0)), (1, .long b)] := hl
  refine lv_lload_n hx hb d_Mo_offFour_0 rfl (lv_at hl 1 rfl) ?_
  refine lv_iconst (v := nI 0) hx hb d_Mo_offFour_1 (by decide +kernel) ?_
  refine aw_ci ((va_runS (As := [.long b, .int (nI 0)]) (rest := []) ⟨hx, hb, hml, hown, hG⟩ (k_Mo_partV l b (nI 0)) (aw_wS 2 hG gw_11_50 gw_11_48 gw_0_10 gw_11_49 rfl rfl hd_Mo_part ⟨Nat.le_of_ble_eq_true rfl, Nat.le_of_ble_eq_true rfl⟩) aw_p0 rfl rfl hl.1 rfl (lv_room (Nat.le_of_ble_eq_true rfl)) d_Mo_offFour_2 ⟨Nat.le_of_ble_eq_true rfl, Nat.le_of_ble_eq_true rfl⟩).run) (fun x1 ex1 => ?_)
  have ex1 := ex1.symm
  refine lv_aload_n hx hb d_Mo_offFour_5 rfl (lv_at hl 0 rfl) ?_
  obtain ⟨hsd3, he2⟩ := zr_M0 hSh
  refine va_get (C := R_Mo) (T := T_Mo) (N := 19) (v := .ref (aw_m ad 15)) hx hb hG in_Mo hown hK hP 67 he2 rfl 17 (by decide) (hG _ gw_9_42) (fun _ h => h) rfl d_Mo_offFour_6 ?_
  clear he2
  refine lv_bipush (v := nI 48) hx hb d_Mo_offFour_9 (by decide +kernel) ?_
  have he4 := zr_M15 hSh
  refine aw_ild hx hb hK hP 82 0 he4 rfl (k := 48) (by omega) (by decide) d_Mo_offFour_11 ?_
  clear he4
  refine ag_topi (fun x5 ex5 => ?_)
  refine aw_ci ((va_runS (As := [.int x5]) (rest := [.int x1]) ⟨hx, hb, hml, hown, hG⟩ (k_Mo_inverseV l x5) (aw_wS 1 hG gw_11_53 gw_11_51 gw_0_10 gw_11_52 rfl rfl hd_Mo_inverse ⟨Nat.le_of_ble_eq_true rfl, Nat.le_of_ble_eq_true rfl⟩) aw_p0 rfl rfl hl.1 rfl (lv_room (Nat.le_of_ble_eq_true rfl)) d_Mo_offFour_12 ⟨Nat.le_of_ble_eq_true rfl, Nat.le_of_ble_eq_true rfl⟩).run) (fun x6 ex6 => ?_)
  have ex6 := ex6.symm
  refine aw_ci ((va_runS (As := [.int x1, .int x6]) (rest := []) ⟨hx, hb, hml, hown, hG⟩ (k_Mo_timesV l x1 x6) (aw_wS 2 hG gw_11_56 gw_11_54 gw_0_10 gw_11_55 rfl rfl hd_Mo_times ⟨Nat.le_of_ble_eq_true rfl, Nat.le_of_ble_eq_true rfl⟩) aw_p0 rfl rfl hl.1 rfl (lv_room (Nat.le_of_ble_eq_true rfl)) d_Mo_offFour_15 ⟨Nat.le_of_ble_eq_true rfl, Nat.le_of_ble_eq_true rfl⟩).run) (fun x7 ex7 => ?_)
  have ex7 := ex7.symm
  refine lv_istore_n hx hb d_Mo_offFour_18 rfl hl (by decide) rfl (fun ls hl => ?_)
  have hl : lv_has ls 12 [(3, .int x7), (0, .ref (aw_m ad 0)), (1, .long b)] := hl
  refine lv_lload_n hx hb d_Mo_offFour_19 rfl (lv_at hl 2 rfl) ?_
  refine lv_iconst (v := nI 2) hx hb d_Mo_offFour_20 (by decide +kernel) ?_
  refine aw_ci ((va_runS (As := [.long b, .int (nI 2)]) (rest := []) ⟨hx, hb, hml, hown, hG⟩ (k_Mo_partV l b (nI 2)) (aw_wS 2 hG gw_11_50 gw_11_48 gw_0_10 gw_11_49 rfl rfl hd_Mo_part ⟨Nat.le_of_ble_eq_true rfl, Nat.le_of_ble_eq_true rfl⟩) aw_p0 rfl rfl hl.1 rfl (lv_room (Nat.le_of_ble_eq_true rfl)) d_Mo_offFour_21 ⟨Nat.le_of_ble_eq_true rfl, Nat.le_of_ble_eq_true rfl⟩).run) (fun x8 ex8 => ?_)
  have ex8 := ex8.symm
  refine lv_aload_n hx hb d_Mo_offFour_24 rfl (lv_at hl 1 rfl) ?_
  obtain ⟨hsd10, he9⟩ := zr_M0 hSh
  refine va_get (C := R_Mo) (T := T_Mo) (N := 19) (v := .ref (aw_m ad 15)) hx hb hG in_Mo hown hK hP 67 he9 rfl 17 (by decide) (hG _ gw_9_42) (fun _ h => h) rfl d_Mo_offFour_25 ?_
  clear he9
  refine lv_bipush (v := nI 50) hx hb d_Mo_offFour_28 (by decide +kernel) ?_
  have he11 := zr_M15 hSh
  refine aw_ild hx hb hK hP 82 0 he11 rfl (k := 50) (by omega) (by decide) d_Mo_offFour_30 ?_
  clear he11
  refine ag_topi (fun x12 ex12 => ?_)
  refine lv_isub hx hb d_Mo_offFour_31 ?_
  refine ag_topi (fun x13 ex13 => ?_)
  refine lv_ldc (v := 65535) hx hb hown (hG _ gw_11_36) d_Mo_offFour_32 ?_
  refine lv_iand hx hb d_Mo_offFour_34 ?_
  refine ag_topi (fun x14 ex14 => ?_)
  refine lv_istore hx hb d_Mo_offFour_35 hl (by decide) rfl (fun ls hl => ?_)
  have hl : lv_has ls 12 [(4, .int x14), (3, .int x7), (0, .ref (aw_m ad 0)), (1, .long b)] := hl
  refine lv_lload_n hx hb d_Mo_offFour_37 rfl (lv_at hl 3 rfl) ?_
  refine lv_iconst (v := nI 1) hx hb d_Mo_offFour_38 (by decide +kernel) ?_
  refine aw_ci ((va_runS (As := [.long b, .int (nI 1)]) (rest := []) ⟨hx, hb, hml, hown, hG⟩ (k_Mo_partV l b (nI 1)) (aw_wS 2 hG gw_11_50 gw_11_48 gw_0_10 gw_11_49 rfl rfl hd_Mo_part ⟨Nat.le_of_ble_eq_true rfl, Nat.le_of_ble_eq_true rfl⟩) aw_p0 rfl rfl hl.1 rfl (lv_room (Nat.le_of_ble_eq_true rfl)) d_Mo_offFour_39 ⟨Nat.le_of_ble_eq_true rfl, Nat.le_of_ble_eq_true rfl⟩).run) (fun x15 ex15 => ?_)
  have ex15 := ex15.symm
  refine lv_aload_n hx hb d_Mo_offFour_42 rfl (lv_at hl 2 rfl) ?_
  obtain ⟨hsd17, he16⟩ := zr_M0 hSh
  refine va_get (C := R_Mo) (T := T_Mo) (N := 19) (v := .ref (aw_m ad 15)) hx hb hG in_Mo hown hK hP 67 he16 rfl 17 (by decide) (hG _ gw_9_42) (fun _ h => h) rfl d_Mo_offFour_43 ?_
  clear he16
  refine lv_bipush (v := nI 49) hx hb d_Mo_offFour_46 (by decide +kernel) ?_
  have he18 := zr_M15 hSh
  refine aw_ild hx hb hK hP 82 0 he18 rfl (k := 49) (by omega) (by decide) d_Mo_offFour_48 ?_
  clear he18
  refine ag_topi (fun x19 ex19 => ?_)
  refine lv_isub hx hb d_Mo_offFour_49 ?_
  refine ag_topi (fun x20 ex20 => ?_)
  refine lv_ldc (v := 65535) hx hb hown (hG _ gw_11_36) d_Mo_offFour_50 ?_
  refine lv_iand hx hb d_Mo_offFour_52 ?_
  refine ag_topi (fun x21 ex21 => ?_)
  refine lv_istore hx hb d_Mo_offFour_53 hl (by decide) rfl (fun ls hl => ?_)
  have hl : lv_has ls 12 [(5, .int x21), (4, .int x14), (3, .int x7), (0, .ref (aw_m ad 0)), (1, .long b)] := hl
  refine lv_lload_n hx hb d_Mo_offFour_55 rfl (lv_at hl 4 rfl) ?_
  refine lv_iconst (v := nI 3) hx hb d_Mo_offFour_56 (by decide +kernel) ?_
  refine aw_ci ((va_runS (As := [.long b, .int (nI 3)]) (rest := []) ⟨hx, hb, hml, hown, hG⟩ (k_Mo_partV l b (nI 3)) (aw_wS 2 hG gw_11_50 gw_11_48 gw_0_10 gw_11_49 rfl rfl hd_Mo_part ⟨Nat.le_of_ble_eq_true rfl, Nat.le_of_ble_eq_true rfl⟩) aw_p0 rfl rfl hl.1 rfl (lv_room (Nat.le_of_ble_eq_true rfl)) d_Mo_offFour_57 ⟨Nat.le_of_ble_eq_true rfl, Nat.le_of_ble_eq_true rfl⟩).run) (fun x22 ex22 => ?_)
  have ex22 := ex22.symm
  refine lv_aload_n hx hb d_Mo_offFour_60 rfl (lv_at hl 3 rfl) ?_
  obtain ⟨hsd24, he23⟩ := zr_M0 hSh
  refine va_get (C := R_Mo) (T := T_Mo) (N := 19) (v := .ref (aw_m ad 15)) hx hb hG in_Mo hown hK hP 67 he23 rfl 17 (by decide) (hG _ gw_9_42) (fun _ h => h) rfl d_Mo_offFour_61 ?_
  clear he23
  refine lv_bipush (v := nI 51) hx hb d_Mo_offFour_64 (by decide +kernel) ?_
  have he25 := zr_M15 hSh
  refine aw_ild hx hb hK hP 82 0 he25 rfl (k := 51) (by omega) (by decide) d_Mo_offFour_66 ?_
  clear he25
  refine ag_topi (fun x26 ex26 => ?_)
  refine aw_ci ((va_runS (As := [.int x26]) (rest := [.int x22]) ⟨hx, hb, hml, hown, hG⟩ (k_Mo_inverseV l x26) (aw_wS 1 hG gw_11_53 gw_11_51 gw_0_10 gw_11_52 rfl rfl hd_Mo_inverse ⟨Nat.le_of_ble_eq_true rfl, Nat.le_of_ble_eq_true rfl⟩) aw_p0 rfl rfl hl.1 rfl (lv_room (Nat.le_of_ble_eq_true rfl)) d_Mo_offFour_67 ⟨Nat.le_of_ble_eq_true rfl, Nat.le_of_ble_eq_true rfl⟩).run) (fun x27 ex27 => ?_)
  have ex27 := ex27.symm
  refine aw_ci ((va_runS (As := [.int x22, .int x27]) (rest := []) ⟨hx, hb, hml, hown, hG⟩ (k_Mo_timesV l x22 x27) (aw_wS 2 hG gw_11_56 gw_11_54 gw_0_10 gw_11_55 rfl rfl hd_Mo_times ⟨Nat.le_of_ble_eq_true rfl, Nat.le_of_ble_eq_true rfl⟩) aw_p0 rfl rfl hl.1 rfl (lv_room (Nat.le_of_ble_eq_true rfl)) d_Mo_offFour_70 ⟨Nat.le_of_ble_eq_true rfl, Nat.le_of_ble_eq_true rfl⟩).run) (fun x28 ex28 => ?_)
  have ex28 := ex28.symm
  refine lv_istore hx hb d_Mo_offFour_73 hl (by decide) rfl (fun ls hl => ?_)
  have hl : lv_has ls 12 [(6, .int x28), (5, .int x21), (4, .int x14), (3, .int x7), (0, .ref (aw_m ad 0)), (1, .long b)] := hl
  refine lv_bipush (v := nI 42) hx hb d_Mo_offFour_75 (by decide +kernel) ?_
  refine lv_istore hx hb d_Mo_offFour_77 hl (by decide) rfl (fun ls hl => ?_)
  have hl : lv_has ls 12 [(7, .int (nI 42)), (6, .int x28), (5, .int x21), (4, .int x14), (3, .int x7), (0, .ref (aw_m ad 0)), (1, .long b)] := hl
  have L79 : ∀ (d t : Nat) (H : Heap) (locs : List Loc) (L : va_W) (ls : Array Slot), t + d = 8 → va_P D aw_C L H → va_D (aw_Z N0) L → az_Sh g ad zG zO zX zY zA zB zM zI zL zK zN zF zQ L → va_S (aw_Z N0) s.heap H locs → lv_has ls 12 [(0, .ref (aw_m ad 0)), (1, .long b), (3, .int ((v_Mo_offFourV_L79 zI b t).1)), (4, .int ((v_Mo_offFourV_L79 zI b t).2.1)), (5, .int ((v_Mo_offFourV_L79 zI b t).2.2.1)), (6, .int ((v_Mo_offFourV_L79 zI b t).2.2.2)), (7, .int (aw_d6 (8 - t)))] → W p l e (headSpec ws_Mo_offFourV rm_Mo_offFourV).room s m ([.ref (aw_m ad 0), .long b] : List Value).toArray below meth c H locs 0 0 (MQ below (va_Ql (fun r (_ : Unit) => r = v_Mo_offFourV zI b) (fun (_ : Unit) t => ag_H D N0 (az_Sh g ad zG zO zX zY zA zB zM zI zL zK zN zF zQ) t.heap) (aw_Z N0)) ([.ref (aw_m ad 0), .long b] : List Value).toArray s 0 0 (aw_Z N0)) (F0 m 79 ls []) := by
    clear hl hP hD hSh hS
    intro d
    induction d with
    | zero =>
      intro t H locs L ls ht0 hP hD hSh hS hl
      have ht1 : t = 8 := by omega
      subst ht1
      have hl : lv_has ls 12 [(0, .ref (aw_m ad 0)), (1, .long b), (3, .int ((v_Mo_offFourV_L79 zI b 8).1)), (4, .int ((v_Mo_offFourV_L79 zI b 8).2.1)), (5, .int ((v_Mo_offFourV_L79 zI b 8).2.2.1)), (6, .int ((v_Mo_offFourV_L79 zI b 8).2.2.2)), (7, .int (aw_d6 (8 - 8)))] := hl
      refine lv_iload hx hb d_Mo_offFour_79 (lv_at hl 6 rfl) ?_
      refine lv_if_lt (tgt := 227) hx hb d_Mo_offFour_81 (by decide) (fun _ => ?_) (fun h => absurd (by decide +kernel) h)
      refine lv_iload_n hx hb d_Mo_offFour_227 rfl (lv_at hl 2 rfl) ?_
      refine lv_iload hx hb d_Mo_offFour_228 (lv_at hl 3 rfl) ?_
      refine lv_iload hx hb d_Mo_offFour_230 (lv_at hl 4 rfl) ?_
      refine lv_iload hx hb d_Mo_offFour_232 (lv_at hl 5 rfl) ?_
      refine aw_cl ((va_runS (As := [.int ((v_Mo_offFourV_L79 zI b 8).1), .int ((v_Mo_offFourV_L79 zI b 8).2.1), .int ((v_Mo_offFourV_L79 zI b 8).2.2.1), .int ((v_Mo_offFourV_L79 zI b 8).2.2.2)]) (rest := []) ⟨hx, hb, hml, hown, hG⟩ (k_Mo_fourV l ((v_Mo_offFourV_L79 zI b 8).1) ((v_Mo_offFourV_L79 zI b 8).2.1) ((v_Mo_offFourV_L79 zI b 8).2.2.1) ((v_Mo_offFourV_L79 zI b 8).2.2.2)) (aw_wS 4 hG gw_12_1 gw_11_59 gw_0_10 gw_12_0 rfl rfl hd_Mo_four ⟨Nat.le_of_ble_eq_true rfl, Nat.le_of_ble_eq_true rfl⟩) aw_p0 rfl rfl hl.1 rfl (lv_room (Nat.le_of_ble_eq_true rfl)) d_Mo_offFour_234 ⟨Nat.le_of_ble_eq_true rfl, Nat.le_of_ble_eq_true rfl⟩).run) (fun y29 ey29 => ?_)
      have ey29 := ey29.symm
      exact W.lret hx hb hr (fun t ht hW => ⟨⟨_, (), rfl, (by subst ey29 ex28 ex27 ex26 ex22 ex21 ex20 ex19 ex15 ex14 ex13 ex12 ex8 ex7 ex6 ex5 ex1; rfl), ag_Hr ht hP hD hSh⟩, hS.F ht⟩) hS.2.2 d_Mo_offFour_237
    | succ d ih =>
      intro t H locs L ls ht0 hP hD hSh hS hl
      rw [aw_d6T 8 t (by omega)] at hl
      have hl : lv_has ls 12 [(0, .ref (aw_m ad 0)), (1, .long b), (3, .int ((v_Mo_offFourV_L79 zI b t).1)), (4, .int ((v_Mo_offFourV_L79 zI b t).2.1)), (5, .int ((v_Mo_offFourV_L79 zI b t).2.2.1)), (6, .int ((v_Mo_offFourV_L79 zI b t).2.2.2)), (7, .int (nI (6 * (7 - t))))] := hl
      refine lv_iload hx hb d_Mo_offFour_79 (lv_at hl 6 rfl) ?_
      refine lv_if_lt (tgt := 227) hx hb d_Mo_offFour_81 (by decide) (fun h => absurd h (show ¬ nI (6 * (7 - t)) < nI 0 from fun h9 => absurd ((nI_ltI (by omega) (by omega)).mp h9) (by omega))) (fun _ => ?_)
      refine lv_iload_n hx hb d_Mo_offFour_84 rfl (lv_at hl 2 rfl) ?_
      refine lv_iload hx hb d_Mo_offFour_85 (lv_at hl 3 rfl) ?_
      refine lv_ixor hx hb d_Mo_offFour_87 ?_
      refine ag_topi (fun x30 ex30 => ?_)
      refine lv_aload_n hx hb d_Mo_offFour_88 rfl (lv_at hl 0 rfl) ?_
      obtain ⟨hsd32, he31⟩ := zr_M0 hSh
      refine va_get (C := R_Mo) (T := T_Mo) (N := 19) (v := .ref (aw_m ad 15)) hx hb hG in_Mo hown hK hP 67 he31 rfl 17 (by decide) (hG _ gw_9_42) (fun _ h => h) rfl d_Mo_offFour_89 ?_
      clear he31
      refine lv_iload hx hb d_Mo_offFour_92 (lv_at hl 6 rfl) ?_
      refine lv_iconst (v := nI 4) hx hb d_Mo_offFour_94 (by decide +kernel) ?_
      refine lv_iadd hx hb d_Mo_offFour_95 ?_
      refine aw_ti (nI_add (6 * (7 - t)) 4) ?_
      have he33 := zr_M15 hSh
      refine aw_ild hx hb hK hP 82 0 he33 rfl (k := ((6 * (7 - t)) + 4)) (by omega) (by decide) d_Mo_offFour_96 ?_
      clear he33
      refine ag_topi (fun x34 ex34 => ?_)
      refine aw_ci ((va_runS (As := [.int x30, .int x34]) (rest := []) ⟨hx, hb, hml, hown, hG⟩ (k_Mo_timesV l x30 x34) (aw_wS 2 hG gw_11_56 gw_11_54 gw_0_10 gw_11_55 rfl rfl hd_Mo_times ⟨Nat.le_of_ble_eq_true rfl, Nat.le_of_ble_eq_true rfl⟩) aw_p0 rfl rfl hl.1 rfl (lv_room (Nat.le_of_ble_eq_true rfl)) d_Mo_offFour_97 ⟨Nat.le_of_ble_eq_true rfl, Nat.le_of_ble_eq_true rfl⟩).run) (fun x35 ex35 => ?_)
      have ex35 := ex35.symm
      refine lv_istore hx hb d_Mo_offFour_100 hl (by decide) rfl (fun ls hl => ?_)
      have hl : lv_has ls 12 [(8, .int x35), (0, .ref (aw_m ad 0)), (1, .long b), (3, .int ((v_Mo_offFourV_L79 zI b t).1)), (4, .int ((v_Mo_offFourV_L79 zI b t).2.1)), (5, .int ((v_Mo_offFourV_L79 zI b t).2.2.1)), (6, .int ((v_Mo_offFourV_L79 zI b t).2.2.2)), (7, .int (nI (6 * (7 - t))))] := hl
      refine lv_iload hx hb d_Mo_offFour_102 (lv_at hl 0 rfl) ?_
      refine lv_iload hx hb d_Mo_offFour_104 (lv_at hl 5 rfl) ?_
      refine lv_iload hx hb d_Mo_offFour_106 (lv_at hl 6 rfl) ?_
      refine lv_ixor hx hb d_Mo_offFour_108 ?_
      refine ag_topi (fun x36 ex36 => ?_)
      refine lv_iadd hx hb d_Mo_offFour_109 ?_
      refine ag_topi (fun x37 ex37 => ?_)
      refine lv_ldc (v := 65535) hx hb hown (hG _ gw_11_36) d_Mo_offFour_110 ?_
      refine lv_iand hx hb d_Mo_offFour_112 ?_
      refine ag_topi (fun x38 ex38 => ?_)
      refine lv_aload_n hx hb d_Mo_offFour_113 rfl (lv_at hl 1 rfl) ?_
      obtain ⟨hsd40, he39⟩ := zr_M0 hSh
      refine va_get (C := R_Mo) (T := T_Mo) (N := 19) (v := .ref (aw_m ad 15)) hx hb hG in_Mo hown hK hP 67 he39 rfl 17 (by decide) (hG _ gw_9_42) (fun _ h => h) rfl d_Mo_offFour_114 ?_
      clear he39
      refine lv_iload hx hb d_Mo_offFour_117 (lv_at hl 7 rfl) ?_
      refine lv_iconst (v := nI 5) hx hb d_Mo_offFour_119 (by decide +kernel) ?_
      refine lv_iadd hx hb d_Mo_offFour_120 ?_
      refine aw_ti (nI_add (6 * (7 - t)) 5) ?_
      have he41 := zr_M15 hSh
      refine aw_ild hx hb hK hP 82 0 he41 rfl (k := ((6 * (7 - t)) + 5)) (by omega) (by decide) d_Mo_offFour_121 ?_
      clear he41
      refine ag_topi (fun x42 ex42 => ?_)
      refine aw_ci ((va_runS (As := [.int x38, .int x42]) (rest := []) ⟨hx, hb, hml, hown, hG⟩ (k_Mo_timesV l x38 x42) (aw_wS 2 hG gw_11_56 gw_11_54 gw_0_10 gw_11_55 rfl rfl hd_Mo_times ⟨Nat.le_of_ble_eq_true rfl, Nat.le_of_ble_eq_true rfl⟩) aw_p0 rfl rfl hl.1 rfl (lv_room (Nat.le_of_ble_eq_true rfl)) d_Mo_offFour_122 ⟨Nat.le_of_ble_eq_true rfl, Nat.le_of_ble_eq_true rfl⟩).run) (fun x43 ex43 => ?_)
      have ex43 := ex43.symm
      refine lv_istore hx hb d_Mo_offFour_125 hl (by decide) rfl (fun ls hl => ?_)
      have hl : lv_has ls 12 [(9, .int x43), (8, .int x35), (0, .ref (aw_m ad 0)), (1, .long b), (3, .int ((v_Mo_offFourV_L79 zI b t).1)), (4, .int ((v_Mo_offFourV_L79 zI b t).2.1)), (5, .int ((v_Mo_offFourV_L79 zI b t).2.2.1)), (6, .int ((v_Mo_offFourV_L79 zI b t).2.2.2)), (7, .int (nI (6 * (7 - t))))] := hl
      refine lv_iload hx hb d_Mo_offFour_127 (lv_at hl 1 rfl) ?_
      refine lv_iload hx hb d_Mo_offFour_129 (lv_at hl 0 rfl) ?_
      refine lv_iadd hx hb d_Mo_offFour_131 ?_
      refine ag_topi (fun x44 ex44 => ?_)
      refine lv_ldc (v := 65535) hx hb hown (hG _ gw_11_36) d_Mo_offFour_132 ?_
      refine lv_iand hx hb d_Mo_offFour_134 ?_
      refine ag_topi (fun x45 ex45 => ?_)
      refine lv_istore hx hb d_Mo_offFour_135 hl (by decide) rfl (fun ls hl => ?_)
      have hl : lv_has ls 12 [(10, .int x45), (9, .int x43), (8, .int x35), (0, .ref (aw_m ad 0)), (1, .long b), (3, .int ((v_Mo_offFourV_L79 zI b t).1)), (4, .int ((v_Mo_offFourV_L79 zI b t).2.1)), (5, .int ((v_Mo_offFourV_L79 zI b t).2.2.1)), (6, .int ((v_Mo_offFourV_L79 zI b t).2.2.2)), (7, .int (nI (6 * (7 - t))))] := hl
      refine lv_iload hx hb d_Mo_offFour_137 (lv_at hl 6 rfl) ?_
      refine lv_istore hx hb d_Mo_offFour_139 hl (by decide) rfl (fun ls hl => ?_)
      have hl : lv_has ls 12 [(11, .int ((v_Mo_offFourV_L79 zI b t).2.1)), (10, .int x45), (9, .int x43), (8, .int x35), (0, .ref (aw_m ad 0)), (1, .long b), (3, .int ((v_Mo_offFourV_L79 zI b t).1)), (4, .int ((v_Mo_offFourV_L79 zI b t).2.1)), (5, .int ((v_Mo_offFourV_L79 zI b t).2.2.1)), (6, .int ((v_Mo_offFourV_L79 zI b t).2.2.2)), (7, .int (nI (6 * (7 - t))))] := hl
      refine lv_iload_n hx hb d_Mo_offFour_141 rfl (lv_at hl 6 rfl) ?_
      refine lv_iload hx hb d_Mo_offFour_142 (lv_at hl 2 rfl) ?_
      refine lv_ixor hx hb d_Mo_offFour_144 ?_
      refine ag_topi (fun x46 ex46 => ?_)
      refine lv_aload_n hx hb d_Mo_offFour_145 rfl (lv_at hl 4 rfl) ?_
      obtain ⟨hsd48, he47⟩ := zr_M0 hSh
      refine va_get (C := R_Mo) (T := T_Mo) (N := 19) (v := .ref (aw_m ad 15)) hx hb hG in_Mo hown hK hP 67 he47 rfl 17 (by decide) (hG _ gw_9_42) (fun _ h => h) rfl d_Mo_offFour_146 ?_
      clear he47
      refine lv_iload hx hb d_Mo_offFour_149 (lv_at hl 10 rfl) ?_
      have he49 := zr_M15 hSh
      refine aw_ild hx hb hK hP 82 0 he49 rfl (k := (6 * (7 - t))) (by omega) (by decide) d_Mo_offFour_151 ?_
      clear he49
      refine ag_topi (fun x50 ex50 => ?_)
      refine aw_ci ((va_runS (As := [.int x50]) (rest := [.int x46]) ⟨hx, hb, hml, hown, hG⟩ (k_Mo_inverseV l x50) (aw_wS 1 hG gw_11_53 gw_11_51 gw_0_10 gw_11_52 rfl rfl hd_Mo_inverse ⟨Nat.le_of_ble_eq_true rfl, Nat.le_of_ble_eq_true rfl⟩) aw_p0 rfl rfl hl.1 rfl (lv_room (Nat.le_of_ble_eq_true rfl)) d_Mo_offFour_152 ⟨Nat.le_of_ble_eq_true rfl, Nat.le_of_ble_eq_true rfl⟩).run) (fun x51 ex51 => ?_)
      have ex51 := ex51.symm
      refine aw_ci ((va_runS (As := [.int x46, .int x51]) (rest := []) ⟨hx, hb, hml, hown, hG⟩ (k_Mo_timesV l x46 x51) (aw_wS 2 hG gw_11_56 gw_11_54 gw_0_10 gw_11_55 rfl rfl hd_Mo_times ⟨Nat.le_of_ble_eq_true rfl, Nat.le_of_ble_eq_true rfl⟩) aw_p0 rfl rfl hl.1 rfl (lv_room (Nat.le_of_ble_eq_true rfl)) d_Mo_offFour_155 ⟨Nat.le_of_ble_eq_true rfl, Nat.le_of_ble_eq_true rfl⟩).run) (fun x52 ex52 => ?_)
      have ex52 := ex52.symm
      refine lv_istore_n hx hb d_Mo_offFour_158 rfl hl (by decide) rfl (fun ls hl => ?_)
      have hl : lv_has ls 12 [(3, .int x52), (11, .int ((v_Mo_offFourV_L79 zI b t).2.1)), (10, .int x45), (9, .int x43), (8, .int x35), (0, .ref (aw_m ad 0)), (1, .long b), (4, .int ((v_Mo_offFourV_L79 zI b t).2.1)), (5, .int ((v_Mo_offFourV_L79 zI b t).2.2.1)), (6, .int ((v_Mo_offFourV_L79 zI b t).2.2.2)), (7, .int (nI (6 * (7 - t))))] := hl
      refine lv_iload hx hb d_Mo_offFour_159 (lv_at hl 8 rfl) ?_
      refine lv_iload hx hb d_Mo_offFour_161 (lv_at hl 2 rfl) ?_
      refine lv_ixor hx hb d_Mo_offFour_163 ?_
      refine ag_topi (fun x53 ex53 => ?_)
      refine lv_aload_n hx hb d_Mo_offFour_164 rfl (lv_at hl 5 rfl) ?_
      obtain ⟨hsd55, he54⟩ := zr_M0 hSh
      refine va_get (C := R_Mo) (T := T_Mo) (N := 19) (v := .ref (aw_m ad 15)) hx hb hG in_Mo hown hK hP 67 he54 rfl 17 (by decide) (hG _ gw_9_42) (fun _ h => h) rfl d_Mo_offFour_165 ?_
      clear he54
      refine lv_iload hx hb d_Mo_offFour_168 (lv_at hl 10 rfl) ?_
      refine lv_iconst (v := nI 1) hx hb d_Mo_offFour_170 (by decide +kernel) ?_
      refine lv_iadd hx hb d_Mo_offFour_171 ?_
      refine aw_ti (nI_add (6 * (7 - t)) 1) ?_
      have he56 := zr_M15 hSh
      refine aw_ild hx hb hK hP 82 0 he56 rfl (k := ((6 * (7 - t)) + 1)) (by omega) (by decide) d_Mo_offFour_172 ?_
      clear he56
      refine ag_topi (fun x57 ex57 => ?_)
      refine lv_isub hx hb d_Mo_offFour_173 ?_
      refine ag_topi (fun x58 ex58 => ?_)
      refine lv_ldc (v := 65535) hx hb hown (hG _ gw_11_36) d_Mo_offFour_174 ?_
      refine lv_iand hx hb d_Mo_offFour_176 ?_
      refine ag_topi (fun x59 ex59 => ?_)
      refine lv_istore hx hb d_Mo_offFour_177 hl (by decide) rfl (fun ls hl => ?_)
      have hl : lv_has ls 12 [(4, .int x59), (3, .int x52), (11, .int ((v_Mo_offFourV_L79 zI b t).2.1)), (10, .int x45), (9, .int x43), (8, .int x35), (0, .ref (aw_m ad 0)), (1, .long b), (5, .int ((v_Mo_offFourV_L79 zI b t).2.2.1)), (6, .int ((v_Mo_offFourV_L79 zI b t).2.2.2)), (7, .int (nI (6 * (7 - t))))] := hl
      refine lv_iload hx hb d_Mo_offFour_179 (lv_at hl 2 rfl) ?_
      refine lv_iload hx hb d_Mo_offFour_181 (lv_at hl 4 rfl) ?_
      refine lv_ixor hx hb d_Mo_offFour_183 ?_
      refine ag_topi (fun x60 ex60 => ?_)
      refine lv_aload_n hx hb d_Mo_offFour_184 rfl (lv_at hl 6 rfl) ?_
      obtain ⟨hsd62, he61⟩ := zr_M0 hSh
      refine va_get (C := R_Mo) (T := T_Mo) (N := 19) (v := .ref (aw_m ad 15)) hx hb hG in_Mo hown hK hP 67 he61 rfl 17 (by decide) (hG _ gw_9_42) (fun _ h => h) rfl d_Mo_offFour_185 ?_
      clear he61
      refine lv_iload hx hb d_Mo_offFour_188 (lv_at hl 10 rfl) ?_
      refine lv_iconst (v := nI 2) hx hb d_Mo_offFour_190 (by decide +kernel) ?_
      refine lv_iadd hx hb d_Mo_offFour_191 ?_
      refine aw_ti (nI_add (6 * (7 - t)) 2) ?_
      have he63 := zr_M15 hSh
      refine aw_ild hx hb hK hP 82 0 he63 rfl (k := ((6 * (7 - t)) + 2)) (by omega) (by decide) d_Mo_offFour_192 ?_
      clear he63
      refine ag_topi (fun x64 ex64 => ?_)
      refine lv_isub hx hb d_Mo_offFour_193 ?_
      refine ag_topi (fun x65 ex65 => ?_)
      refine lv_ldc (v := 65535) hx hb hown (hG _ gw_11_36) d_Mo_offFour_194 ?_
      refine lv_iand hx hb d_Mo_offFour_196 ?_
      refine ag_topi (fun x66 ex66 => ?_)
      refine lv_istore hx hb d_Mo_offFour_197 hl (by decide) rfl (fun ls hl => ?_)
      have hl : lv_has ls 12 [(5, .int x66), (4, .int x59), (3, .int x52), (11, .int ((v_Mo_offFourV_L79 zI b t).2.1)), (10, .int x45), (9, .int x43), (8, .int x35), (0, .ref (aw_m ad 0)), (1, .long b), (6, .int ((v_Mo_offFourV_L79 zI b t).2.2.2)), (7, .int (nI (6 * (7 - t))))] := hl
      refine lv_iload hx hb d_Mo_offFour_199 (lv_at hl 9 rfl) ?_
      refine lv_iload hx hb d_Mo_offFour_201 (lv_at hl 4 rfl) ?_
      refine lv_ixor hx hb d_Mo_offFour_203 ?_
      refine ag_topi (fun x67 ex67 => ?_)
      refine lv_aload_n hx hb d_Mo_offFour_204 rfl (lv_at hl 7 rfl) ?_
      obtain ⟨hsd69, he68⟩ := zr_M0 hSh
      refine va_get (C := R_Mo) (T := T_Mo) (N := 19) (v := .ref (aw_m ad 15)) hx hb hG in_Mo hown hK hP 67 he68 rfl 17 (by decide) (hG _ gw_9_42) (fun _ h => h) rfl d_Mo_offFour_205 ?_
      clear he68
      refine lv_iload hx hb d_Mo_offFour_208 (lv_at hl 10 rfl) ?_
      refine lv_iconst (v := nI 3) hx hb d_Mo_offFour_210 (by decide +kernel) ?_
      refine lv_iadd hx hb d_Mo_offFour_211 ?_
      refine aw_ti (nI_add (6 * (7 - t)) 3) ?_
      have he70 := zr_M15 hSh
      refine aw_ild hx hb hK hP 82 0 he70 rfl (k := ((6 * (7 - t)) + 3)) (by omega) (by decide) d_Mo_offFour_212 ?_
      clear he70
      refine ag_topi (fun x71 ex71 => ?_)
      refine aw_ci ((va_runS (As := [.int x71]) (rest := [.int x67]) ⟨hx, hb, hml, hown, hG⟩ (k_Mo_inverseV l x71) (aw_wS 1 hG gw_11_53 gw_11_51 gw_0_10 gw_11_52 rfl rfl hd_Mo_inverse ⟨Nat.le_of_ble_eq_true rfl, Nat.le_of_ble_eq_true rfl⟩) aw_p0 rfl rfl hl.1 rfl (lv_room (Nat.le_of_ble_eq_true rfl)) d_Mo_offFour_213 ⟨Nat.le_of_ble_eq_true rfl, Nat.le_of_ble_eq_true rfl⟩).run) (fun x72 ex72 => ?_)
      have ex72 := ex72.symm
      refine aw_ci ((va_runS (As := [.int x67, .int x72]) (rest := []) ⟨hx, hb, hml, hown, hG⟩ (k_Mo_timesV l x67 x72) (aw_wS 2 hG gw_11_56 gw_11_54 gw_0_10 gw_11_55 rfl rfl hd_Mo_times ⟨Nat.le_of_ble_eq_true rfl, Nat.le_of_ble_eq_true rfl⟩) aw_p0 rfl rfl hl.1 rfl (lv_room (Nat.le_of_ble_eq_true rfl)) d_Mo_offFour_216 ⟨Nat.le_of_ble_eq_true rfl, Nat.le_of_ble_eq_true rfl⟩).run) (fun x73 ex73 => ?_)
      have ex73 := ex73.symm
      refine lv_istore hx hb d_Mo_offFour_219 hl (by decide) rfl (fun ls hl => ?_)
      have hl : lv_has ls 12 [(6, .int x73), (5, .int x66), (4, .int x59), (3, .int x52), (11, .int ((v_Mo_offFourV_L79 zI b t).2.1)), (10, .int x45), (9, .int x43), (8, .int x35), (0, .ref (aw_m ad 0)), (1, .long b), (7, .int (nI (6 * (7 - t))))] := hl
      refine lv_iinc (k := 10) (v := aw_d6 (8 - (t + 1))) hx hb d_Mo_offFour_221 hl rfl (aw_d6S 8 t (by omega)) (by decide) rfl (fun ls hl => ?_)
      have hl : lv_has ls 12 [(7, .int (aw_d6 (8 - (t + 1)))), (6, .int x73), (5, .int x66), (4, .int x59), (3, .int x52), (11, .int ((v_Mo_offFourV_L79 zI b t).2.1)), (10, .int x45), (9, .int x43), (8, .int x35), (0, .ref (aw_m ad 0)), (1, .long b)] := hl
      refine lv_goto (tgt := 79) hx hb d_Mo_offFour_224 (by decide) ?_
      have hl := lv_sub hl (l' := [(0, .ref (aw_m ad 0)), (1, .long b), (3, .int x52), (4, .int x59), (5, .int x66), (6, .int x73), (7, .int (aw_d6 (8 - (t + 1))))]) [9, 10, 4, 3, 2, 1, 0] rfl
      have g0 : x52 = (v_Mo_offFourV_L79 zI b (t + 1)).1 := by subst ex73 ex72 ex71 ex67 ex66 ex65 ex64 ex60 ex59 ex58 ex57 ex53 ex52 ex51 ex50 ex46 ex45 ex44 ex43 ex42 ex38 ex37 ex36 ex35 ex34 ex30 ex28 ex27 ex26 ex22 ex21 ex20 ex19 ex15 ex14 ex13 ex12 ex8 ex7 ex6 ex5 ex1; (rw [v_Mo_offFourV_L79_s]) <;> rfl
      have g1 : x59 = (v_Mo_offFourV_L79 zI b (t + 1)).2.1 := by subst ex73 ex72 ex71 ex67 ex66 ex65 ex64 ex60 ex59 ex58 ex57 ex53 ex52 ex51 ex50 ex46 ex45 ex44 ex43 ex42 ex38 ex37 ex36 ex35 ex34 ex30 ex28 ex27 ex26 ex22 ex21 ex20 ex19 ex15 ex14 ex13 ex12 ex8 ex7 ex6 ex5 ex1; (rw [v_Mo_offFourV_L79_s]) <;> rfl
      have g2 : x66 = (v_Mo_offFourV_L79 zI b (t + 1)).2.2.1 := by subst ex73 ex72 ex71 ex67 ex66 ex65 ex64 ex60 ex59 ex58 ex57 ex53 ex52 ex51 ex50 ex46 ex45 ex44 ex43 ex42 ex38 ex37 ex36 ex35 ex34 ex30 ex28 ex27 ex26 ex22 ex21 ex20 ex19 ex15 ex14 ex13 ex12 ex8 ex7 ex6 ex5 ex1; (rw [v_Mo_offFourV_L79_s]) <;> rfl
      have g3 : x73 = (v_Mo_offFourV_L79 zI b (t + 1)).2.2.2 := by subst ex73 ex72 ex71 ex67 ex66 ex65 ex64 ex60 ex59 ex58 ex57 ex53 ex52 ex51 ex50 ex46 ex45 ex44 ex43 ex42 ex38 ex37 ex36 ex35 ex34 ex30 ex28 ex27 ex26 ex22 ex21 ex20 ex19 ex15 ex14 ex13 ex12 ex8 ex7 ex6 ex5 ex1; (rw [v_Mo_offFourV_L79_s]) <;> rfl
      have hl : lv_has ls 12 [(0, .ref (aw_m ad 0)), (1, .long b), (3, .int ((v_Mo_offFourV_L79 zI b (t + 1)).1)), (4, .int ((v_Mo_offFourV_L79 zI b (t + 1)).2.1)), (5, .int ((v_Mo_offFourV_L79 zI b (t + 1)).2.2.1)), (6, .int ((v_Mo_offFourV_L79 zI b (t + 1)).2.2.2)), (7, .int (aw_d6 (8 - (t + 1))))] := by rw [← g0, ← g1, ← g2, ← g3]; exact hl
      exact ih (t + 1) H locs L ls (by omega) hP hD hSh hS (by first | exact hl | simpa [Nat.add_assoc, Nat.mul_add, Nat.add_comm] using hl)
  have hl := lv_sub hl (l' := [(0, .ref (aw_m ad 0)), (1, .long b), (3, .int x7), (4, .int x14), (5, .int x21), (6, .int x28), (7, .int (nI 42))]) [5, 6, 4, 3, 2, 1, 0] rfl
  have g0 : x7 = (v_Mo_offFourV_L79 zI b 0).1 := by subst ex28 ex27 ex26 ex22 ex21 ex20 ex19 ex15 ex14 ex13 ex12 ex8 ex7 ex6 ex5 ex1; (rw [v_Mo_offFourV_L79_z]) <;> rfl
  have g1 : x14 = (v_Mo_offFourV_L79 zI b 0).2.1 := by subst ex28 ex27 ex26 ex22 ex21 ex20 ex19 ex15 ex14 ex13 ex12 ex8 ex7 ex6 ex5 ex1; (rw [v_Mo_offFourV_L79_z]) <;> rfl
  have g2 : x21 = (v_Mo_offFourV_L79 zI b 0).2.2.1 := by subst ex28 ex27 ex26 ex22 ex21 ex20 ex19 ex15 ex14 ex13 ex12 ex8 ex7 ex6 ex5 ex1; (rw [v_Mo_offFourV_L79_z]) <;> rfl
  have g3 : x28 = (v_Mo_offFourV_L79 zI b 0).2.2.2 := by subst ex28 ex27 ex26 ex22 ex21 ex20 ex19 ex15 ex14 ex13 ex12 ex8 ex7 ex6 ex5 ex1; (rw [v_Mo_offFourV_L79_z]) <;> rfl
  have hl : lv_has ls 12 [(0, .ref (aw_m ad 0)), (1, .long b), (3, .int ((v_Mo_offFourV_L79 zI b 0).1)), (4, .int ((v_Mo_offFourV_L79 zI b 0).2.1)), (5, .int ((v_Mo_offFourV_L79 zI b 0).2.2.1)), (6, .int ((v_Mo_offFourV_L79 zI b 0).2.2.2)), (7, .int (nI 42))] := by rw [← g0, ← g1, ← g2, ← g3]; exact hl
  exact L79 8 0 _ _ L ls (by omega) hP hD hSh hS (by first | exact hl | simpa using hl)
noncomputable def v_Mo_on0V_L77 (zI : Nat → Nat → Int32) (b : Int64) (t : Nat) : Int32 × Int32 := Nat.rec (motive := fun _ => Int32 × Int32) (((v_Mo_swappedV (v_Mo_upperV b)) + (zI 15 0)), ((v_Mo_swappedV (Int64.toInt32 b)) + (zI 15 1))) (fun t s => (((v_Mo_turnV ((s.1) ^^^ (s.2)) (s.2)) + (zI 15 (2 * (1 + t)))), ((v_Mo_turnV ((s.2) ^^^ ((v_Mo_turnV ((s.1) ^^^ (s.2)) (s.2)) + (zI 15 (2 * (1 + t))))) ((v_Mo_turnV ((s.1) ^^^ (s.2)) (s.2)) + (zI 15 (2 * (1 + t))))) + (zI 15 ((2 * (1 + t)) + 1))))) t
theorem v_Mo_on0V_L77_z (zI : Nat → Nat → Int32) (b : Int64) : v_Mo_on0V_L77 zI b 0 = (((v_Mo_swappedV (v_Mo_upperV b)) + (zI 15 0)), ((v_Mo_swappedV (Int64.toInt32 b)) + (zI 15 1))) := rfl
theorem v_Mo_on0V_L77_s (zI : Nat → Nat → Int32) (b : Int64) (t : Nat) : v_Mo_on0V_L77 zI b (t + 1) = (((v_Mo_turnV (((v_Mo_on0V_L77 zI b t).1) ^^^ ((v_Mo_on0V_L77 zI b t).2)) ((v_Mo_on0V_L77 zI b t).2)) + (zI 15 (2 * (1 + t)))), ((v_Mo_turnV (((v_Mo_on0V_L77 zI b t).2) ^^^ ((v_Mo_turnV (((v_Mo_on0V_L77 zI b t).1) ^^^ ((v_Mo_on0V_L77 zI b t).2)) ((v_Mo_on0V_L77 zI b t).2)) + (zI 15 (2 * (1 + t))))) ((v_Mo_turnV (((v_Mo_on0V_L77 zI b t).1) ^^^ ((v_Mo_on0V_L77 zI b t).2)) ((v_Mo_on0V_L77 zI b t).2)) + (zI 15 (2 * (1 + t))))) + (zI 15 ((2 * (1 + t)) + 1)))) := rfl
noncomputable def v_Mo_on0V (zI : Nat → Nat → Int32) (b : Int64) : Int64 := v_Mo_joinedV (v_Mo_swappedV ((v_Mo_on0V_L77 zI b 12).1)) (v_Mo_swappedV ((v_Mo_on0V_L77 zI b 12).2))
abbrev ws_Mo_on0V : List Cond := Cond.code y_Mo_on b_Mo_on 8 (some .long) :: aw_G
abbrev rm_Mo_on0V : Room := { frames := 2, cells := 0, slots := 0, locals := 56 }
set_option maxHeartbeats 4000000 in
set_option maxRecDepth 100000 in
theorem k_Mo_on0V (l : Launch) (D : va_G) (g : Nat → ClassId) (ad : Nat → Nat) (N0 : Nat) (zG : Nat → Nat × Nat) (zO : Nat → Nat) (zX : Nat → Nat → Int64) (zY : Nat → Nat → Int32) (zA : Nat → Nat → Nat → Int32) (zB : Nat → Int32) (zM : Nat → Nat × Nat) (zI : Nat → Nat → Int32) (zL : Nat → Nat → Int64) (zN : Nat) (zF : Int32) (zQ : Int64) (b : Int64) : Met l y_Mo_on ws_Mo_on0V rm_Mo_on0V (va_Pc ([.ref (aw_m ad 0), .long b] : List Value) (ag_B D g N0 (az_Sh g ad zG zO zX zY zA zB zM zI zL (nI 0) zN zF zQ))) (va_Ql (fun r (_ : Unit) => r = v_Mo_on0V zI b) (fun (_ : Unit) t => ag_H D N0 (az_Sh g ad zG zO zX zY zA zB zM zI zL (nI 0) zN zF zQ) t.heap) (aw_Z N0)) 0 0 (aw_Z N0) := by
  refine Met.ofW (cc := b_Mo_on) (maxL := 8) (ret := (some .long)) (by decide) rfl ?_
  intro p e s m args below meth c s₁ B hml hv
  obtain ⟨rfl, ⟨L, hP, hD, hSh⟩, hU⟩ := hv
  have hx := B.exec
  have hb := B.bytes
  have hr := B.returns
  have hG : ∀ w ∈ aw_G, w.before _ s = true := fun w h => atoms_spec (ws := ws_Mo_on0V) B.pre w (List.mem_cons_of_mem _ h)
  have hown : s.vm.findClass "RuleCiphersModel" = some m.cls := findClass_of_methodNamed B.named
  have hlocks := B.notSynchronized
  have hE := hU.1
  have hK := hE.1
  have hN := hE.2.1
  have hS : va_S (aw_Z N0) s.heap s.heap [] := va_S.rf
  have hl := lv_entry ([.ref (aw_m ad 0), .long b] : List Value) (n := 8) (Nat.le_of_ble_eq_true rfl)
  rw [lg_entry_eq]
  generalize (lg_sl ([.ref (aw_m ad 0), .long b] : List Value) ++ List.replicate (8 - (lg_sl ([.ref (aw_m ad 0), .long b] : List Value)).length) Slot.unset).toArray = ls at hl ⊢
  have hl : lv_has ls 8 [(0, .ref (aw_m ad 0)), (1, .long b)] := hl
  refine lv_lload_n hx hb d_Mo_on_0 rfl (lv_at hl 1 rfl) ?_
  refine aw_ci ((va_runS (As := [.long b]) (rest := []) ⟨hx, hb, hml, hown, hG⟩ (k_Mo_upperV l b) (aw_wS 1 hG gw_11_17 gw_11_15 gw_0_10 gw_11_16 rfl rfl hd_Mo_upper ⟨Nat.le_of_ble_eq_true rfl, Nat.le_of_ble_eq_true rfl⟩) aw_p0 rfl rfl hl.1 rfl (lv_room (Nat.le_of_ble_eq_true rfl)) d_Mo_on_1 ⟨Nat.le_of_ble_eq_true rfl, Nat.le_of_ble_eq_true rfl⟩).run) (fun x1 ex1 => ?_)
  have ex1 := ex1.symm
  refine lv_istore_n hx hb d_Mo_on_4 rfl hl (by decide) rfl (fun ls hl => ?_)
  have hl : lv_has ls 8 [(3, .int x1), (0, .ref (aw_m ad 0)), (1, .long b)] := hl
  refine lv_lload_n hx hb d_Mo_on_5 rfl (lv_at hl 2 rfl) ?_
  refine lv_l2i hx hb d_Mo_on_6 rfl ?_
  refine ag_topi (fun x2 ex2 => ?_)
  refine lv_istore hx hb d_Mo_on_7 hl (by decide) rfl (fun ls hl => ?_)
  have hl : lv_has ls 8 [(4, .int x2), (3, .int x1), (0, .ref (aw_m ad 0)), (1, .long b)] := hl
  refine lv_iconst (v := nI 0) hx hb d_Mo_on_9 (by decide +kernel) ?_
  refine lv_istore hx hb d_Mo_on_10 hl (by decide) rfl (fun ls hl => ?_)
  have hl : lv_has ls 8 [(5, .int (nI 0)), (4, .int x2), (3, .int x1), (0, .ref (aw_m ad 0)), (1, .long b)] := hl
  refine lv_aload_n hx hb d_Mo_on_12 rfl (lv_at hl 3 rfl) ?_
  obtain ⟨hsd4, he3⟩ := zr_M0 hSh
  refine va_get (C := R_Mo) (T := T_Mo) (N := 19) (v := .int (nI 0)) hx hb hG in_Mo hown hK hP 67 he3 rfl 15 (by decide) (hG _ gw_9_40) (fun _ h => h) rfl d_Mo_on_13 ?_
  clear he3
  refine lv_tableIn (tgt := 48) (off := 32) hx hb d_Mo_on_16 (by decide +kernel) (by decide +kernel) (by decide +kernel) (by decide) ?_
  refine lv_iload_n hx hb d_Mo_on_48 rfl (lv_at hl 2 rfl) ?_
  refine aw_ci ((va_runS (As := [.int x1]) (rest := []) ⟨hx, hb, hml, hown, hG⟩ (k_Mo_swappedV l x1) (aw_wS 1 hG gw_11_20 gw_11_18 gw_0_10 gw_11_19 rfl rfl hd_Mo_swapped ⟨Nat.le_of_ble_eq_true rfl, Nat.le_of_ble_eq_true rfl⟩) aw_p0 rfl rfl hl.1 rfl (lv_room (Nat.le_of_ble_eq_true rfl)) d_Mo_on_49 ⟨Nat.le_of_ble_eq_true rfl, Nat.le_of_ble_eq_true rfl⟩).run) (fun x5 ex5 => ?_)
  have ex5 := ex5.symm
  refine lv_aload_n hx hb d_Mo_on_52 rfl (lv_at hl 3 rfl) ?_
  obtain ⟨hsd7, he6⟩ := zr_M0 hSh
  refine va_get (C := R_Mo) (T := T_Mo) (N := 19) (v := .ref (aw_m ad 15)) hx hb hG in_Mo hown hK hP 67 he6 rfl 17 (by decide) (hG _ gw_9_42) (fun _ h => h) rfl d_Mo_on_53 ?_
  clear he6
  refine lv_iconst (v := nI 0) hx hb d_Mo_on_56 (by decide +kernel) ?_
  have he8 := zr_M15 hSh
  refine aw_ild hx hb hK hP 82 0 he8 rfl (k := 0) (by omega) (by decide) d_Mo_on_57 ?_
  clear he8
  refine ag_topi (fun x9 ex9 => ?_)
  refine lv_iadd hx hb d_Mo_on_58 ?_
  refine ag_topi (fun x10 ex10 => ?_)
  refine lv_istore_n hx hb d_Mo_on_59 rfl hl (by decide) rfl (fun ls hl => ?_)
  have hl : lv_has ls 8 [(3, .int x10), (5, .int (nI 0)), (4, .int x2), (0, .ref (aw_m ad 0)), (1, .long b)] := hl
  refine lv_iload hx hb d_Mo_on_60 (lv_at hl 2 rfl) ?_
  refine aw_ci ((va_runS (As := [.int x2]) (rest := []) ⟨hx, hb, hml, hown, hG⟩ (k_Mo_swappedV l x2) (aw_wS 1 hG gw_11_20 gw_11_18 gw_0_10 gw_11_19 rfl rfl hd_Mo_swapped ⟨Nat.le_of_ble_eq_true rfl, Nat.le_of_ble_eq_true rfl⟩) aw_p0 rfl rfl hl.1 rfl (lv_room (Nat.le_of_ble_eq_true rfl)) d_Mo_on_62 ⟨Nat.le_of_ble_eq_true rfl, Nat.le_of_ble_eq_true rfl⟩).run) (fun x11 ex11 => ?_)
  have ex11 := ex11.symm
  refine lv_aload_n hx hb d_Mo_on_65 rfl (lv_at hl 3 rfl) ?_
  obtain ⟨hsd13, he12⟩ := zr_M0 hSh
  refine va_get (C := R_Mo) (T := T_Mo) (N := 19) (v := .ref (aw_m ad 15)) hx hb hG in_Mo hown hK hP 67 he12 rfl 17 (by decide) (hG _ gw_9_42) (fun _ h => h) rfl d_Mo_on_66 ?_
  clear he12
  refine lv_iconst (v := nI 1) hx hb d_Mo_on_69 (by decide +kernel) ?_
  have he14 := zr_M15 hSh
  refine aw_ild hx hb hK hP 82 0 he14 rfl (k := 1) (by omega) (by decide) d_Mo_on_70 ?_
  clear he14
  refine ag_topi (fun x15 ex15 => ?_)
  refine lv_iadd hx hb d_Mo_on_71 ?_
  refine ag_topi (fun x16 ex16 => ?_)
  refine lv_istore hx hb d_Mo_on_72 hl (by decide) rfl (fun ls hl => ?_)
  have hl : lv_has ls 8 [(4, .int x16), (3, .int x10), (5, .int (nI 0)), (0, .ref (aw_m ad 0)), (1, .long b)] := hl
  refine lv_iconst (v := nI 1) hx hb d_Mo_on_74 (by decide +kernel) ?_
  refine lv_istore hx hb d_Mo_on_75 hl (by decide) rfl (fun ls hl => ?_)
  have hl : lv_has ls 8 [(6, .int (nI 1)), (4, .int x16), (3, .int x10), (5, .int (nI 0)), (0, .ref (aw_m ad 0)), (1, .long b)] := hl
  have L77 : ∀ (d t : Nat) (H : Heap) (locs : List Loc) (L : va_W) (ls : Array Slot), t + d = 12 → va_P D aw_C L H → va_D (aw_Z N0) L → az_Sh g ad zG zO zX zY zA zB zM zI zL (nI 0) zN zF zQ L → va_S (aw_Z N0) s.heap H locs → lv_has ls 8 [(0, .ref (aw_m ad 0)), (1, .long b), (3, .int ((v_Mo_on0V_L77 zI b t).1)), (4, .int ((v_Mo_on0V_L77 zI b t).2)), (5, .int (nI 0)), (6, .int (nI (1 + t)))] → W p l e (headSpec ws_Mo_on0V rm_Mo_on0V).room s m ([.ref (aw_m ad 0), .long b] : List Value).toArray below meth c H locs 0 0 (MQ below (va_Ql (fun r (_ : Unit) => r = v_Mo_on0V zI b) (fun (_ : Unit) t => ag_H D N0 (az_Sh g ad zG zO zX zY zA zB zM zI zL (nI 0) zN zF zQ) t.heap) (aw_Z N0)) ([.ref (aw_m ad 0), .long b] : List Value).toArray s 0 0 (aw_Z N0)) (F0 m 77 ls []) := by
    clear hl hP hD hSh hS
    intro d
    induction d with
    | zero =>
      intro t H locs L ls ht0 hP hD hSh hS hl
      have ht1 : t = 12 := by omega
      subst ht1
      refine lv_iload hx hb d_Mo_on_77 (lv_at hl 5 rfl) ?_
      refine lv_bipush (v := nI 13) hx hb d_Mo_on_79 (by decide +kernel) ?_
      refine lv_icmp_ge (tgt := 132) hx hb d_Mo_on_81 (by decide) (fun _ => ?_) (fun h => absurd (show nI 13 ≤ nI (1 + 12) from (nI_leI (by omega) (by omega)).mpr (by omega)) h)
      refine lv_iload_n hx hb d_Mo_on_132 rfl (lv_at hl 2 rfl) ?_
      refine aw_ci ((va_runS (As := [.int ((v_Mo_on0V_L77 zI b 12).1)]) (rest := []) ⟨hx, hb, hml, hown, hG⟩ (k_Mo_swappedV l ((v_Mo_on0V_L77 zI b 12).1)) (aw_wS 1 hG gw_11_20 gw_11_18 gw_0_10 gw_11_19 rfl rfl hd_Mo_swapped ⟨Nat.le_of_ble_eq_true rfl, Nat.le_of_ble_eq_true rfl⟩) aw_p0 rfl rfl hl.1 rfl (lv_room (Nat.le_of_ble_eq_true rfl)) d_Mo_on_133 ⟨Nat.le_of_ble_eq_true rfl, Nat.le_of_ble_eq_true rfl⟩).run) (fun x17 ex17 => ?_)
      have ex17 := ex17.symm
      refine lv_iload hx hb d_Mo_on_136 (lv_at hl 3 rfl) ?_
      refine aw_ci ((va_runS (As := [.int ((v_Mo_on0V_L77 zI b 12).2)]) (rest := [.int x17]) ⟨hx, hb, hml, hown, hG⟩ (k_Mo_swappedV l ((v_Mo_on0V_L77 zI b 12).2)) (aw_wS 1 hG gw_11_20 gw_11_18 gw_0_10 gw_11_19 rfl rfl hd_Mo_swapped ⟨Nat.le_of_ble_eq_true rfl, Nat.le_of_ble_eq_true rfl⟩) aw_p0 rfl rfl hl.1 rfl (lv_room (Nat.le_of_ble_eq_true rfl)) d_Mo_on_138 ⟨Nat.le_of_ble_eq_true rfl, Nat.le_of_ble_eq_true rfl⟩).run) (fun x18 ex18 => ?_)
      have ex18 := ex18.symm
      refine aw_cl ((va_runS (As := [.int x17, .int x18]) (rest := []) ⟨hx, hb, hml, hown, hG⟩ (k_Mo_joinedV l x17 x18) (aw_wS 2 hG gw_11_43 gw_11_41 gw_0_10 gw_11_42 rfl rfl hd_Mo_joined ⟨Nat.le_of_ble_eq_true rfl, Nat.le_of_ble_eq_true rfl⟩) aw_p0 rfl rfl hl.1 rfl (lv_room (Nat.le_of_ble_eq_true rfl)) d_Mo_on_141 ⟨Nat.le_of_ble_eq_true rfl, Nat.le_of_ble_eq_true rfl⟩).run) (fun y19 ey19 => ?_)
      have ey19 := ey19.symm
      exact W.lret hx hb hr (fun t ht hW => ⟨⟨_, (), rfl, (by subst ey19 ex18 ex17 ex16 ex15 ex11 ex10 ex9 ex5 ex2 ex1; rfl), ag_Hr ht hP hD hSh⟩, hS.F ht⟩) hS.2.2 d_Mo_on_144
    | succ d ih =>
      intro t H locs L ls ht0 hP hD hSh hS hl
      refine lv_iload hx hb d_Mo_on_77 (lv_at hl 5 rfl) ?_
      refine lv_bipush (v := nI 13) hx hb d_Mo_on_79 (by decide +kernel) ?_
      refine lv_icmp_ge (tgt := 132) hx hb d_Mo_on_81 (by decide) (fun h => absurd h (show ¬ nI 13 ≤ nI (1 + t) from fun h9 => absurd ((nI_leI (by omega) (by omega)).mp h9) (by omega))) (fun _ => ?_)
      refine lv_iload_n hx hb d_Mo_on_84 rfl (lv_at hl 2 rfl) ?_
      refine lv_iload hx hb d_Mo_on_85 (lv_at hl 3 rfl) ?_
      refine lv_ixor hx hb d_Mo_on_87 ?_
      refine ag_topi (fun x20 ex20 => ?_)
      refine lv_iload hx hb d_Mo_on_88 (lv_at hl 3 rfl) ?_
      refine aw_ci ((va_runS (As := [.int x20, .int ((v_Mo_on0V_L77 zI b t).2)]) (rest := []) ⟨hx, hb, hml, hown, hG⟩ (k_Mo_turnV l x20 ((v_Mo_on0V_L77 zI b t).2)) (aw_wS 2 hG gw_11_24 gw_11_22 gw_0_10 gw_11_23 rfl rfl hd_Mo_turn ⟨Nat.le_of_ble_eq_true rfl, Nat.le_of_ble_eq_true rfl⟩) aw_p0 rfl rfl hl.1 rfl (lv_room (Nat.le_of_ble_eq_true rfl)) d_Mo_on_90 ⟨Nat.le_of_ble_eq_true rfl, Nat.le_of_ble_eq_true rfl⟩).run) (fun x21 ex21 => ?_)
      have ex21 := ex21.symm
      refine lv_aload_n hx hb d_Mo_on_93 rfl (lv_at hl 0 rfl) ?_
      obtain ⟨hsd23, he22⟩ := zr_M0 hSh
      refine va_get (C := R_Mo) (T := T_Mo) (N := 19) (v := .ref (aw_m ad 15)) hx hb hG in_Mo hown hK hP 67 he22 rfl 17 (by decide) (hG _ gw_9_42) (fun _ h => h) rfl d_Mo_on_94 ?_
      clear he22
      refine lv_iconst (v := nI 2) hx hb d_Mo_on_97 (by decide +kernel) ?_
      refine lv_iload hx hb d_Mo_on_98 (lv_at hl 5 rfl) ?_
      refine lv_imul hx hb d_Mo_on_100 ?_
      refine aw_ti (pk_mul 2 (1 + t)) ?_
      have he24 := zr_M15 hSh
      refine aw_ild hx hb hK hP 82 0 he24 rfl (k := (2 * (1 + t))) (by omega) (by decide) d_Mo_on_101 ?_
      clear he24
      refine ag_topi (fun x25 ex25 => ?_)
      refine lv_iadd hx hb d_Mo_on_102 ?_
      refine ag_topi (fun x26 ex26 => ?_)
      refine lv_istore_n hx hb d_Mo_on_103 rfl hl (by decide) rfl (fun ls hl => ?_)
      have hl : lv_has ls 8 [(3, .int x26), (0, .ref (aw_m ad 0)), (1, .long b), (4, .int ((v_Mo_on0V_L77 zI b t).2)), (5, .int (nI 0)), (6, .int (nI (1 + t)))] := hl
      refine lv_iload hx hb d_Mo_on_104 (lv_at hl 3 rfl) ?_
      refine lv_iload_n hx hb d_Mo_on_106 rfl (lv_at hl 0 rfl) ?_
      refine lv_ixor hx hb d_Mo_on_107 ?_
      refine ag_topi (fun x27 ex27 => ?_)
      refine lv_iload_n hx hb d_Mo_on_108 rfl (lv_at hl 0 rfl) ?_
      refine aw_ci ((va_runS (As := [.int x27, .int x26]) (rest := []) ⟨hx, hb, hml, hown, hG⟩ (k_Mo_turnV l x27 x26) (aw_wS 2 hG gw_11_24 gw_11_22 gw_0_10 gw_11_23 rfl rfl hd_Mo_turn ⟨Nat.le_of_ble_eq_true rfl, Nat.le_of_ble_eq_true rfl⟩) aw_p0 rfl rfl hl.1 rfl (lv_room (Nat.le_of_ble_eq_true rfl)) d_Mo_on_109 ⟨Nat.le_of_ble_eq_true rfl, Nat.le_of_ble_eq_true rfl⟩).run) (fun x28 ex28 => ?_)
      have ex28 := ex28.symm
      refine lv_aload_n hx hb d_Mo_on_112 rfl (lv_at hl 1 rfl) ?_
      obtain ⟨hsd30, he29⟩ := zr_M0 hSh
      refine va_get (C := R_Mo) (T := T_Mo) (N := 19) (v := .ref (aw_m ad 15)) hx hb hG in_Mo hown hK hP 67 he29 rfl 17 (by decide) (hG _ gw_9_42) (fun _ h => h) rfl d_Mo_on_113 ?_
      clear he29
      refine lv_iconst (v := nI 2) hx hb d_Mo_on_116 (by decide +kernel) ?_
      refine lv_iload hx hb d_Mo_on_117 (lv_at hl 5 rfl) ?_
      refine lv_imul hx hb d_Mo_on_119 ?_
      refine aw_ti (pk_mul 2 (1 + t)) ?_
      refine lv_iconst (v := nI 1) hx hb d_Mo_on_120 (by decide +kernel) ?_
      refine lv_iadd hx hb d_Mo_on_121 ?_
      refine aw_ti (nI_add (2 * (1 + t)) 1) ?_
      have he31 := zr_M15 hSh
      refine aw_ild hx hb hK hP 82 0 he31 rfl (k := ((2 * (1 + t)) + 1)) (by omega) (by decide) d_Mo_on_122 ?_
      clear he31
      refine ag_topi (fun x32 ex32 => ?_)
      refine lv_iadd hx hb d_Mo_on_123 ?_
      refine ag_topi (fun x33 ex33 => ?_)
      refine lv_istore hx hb d_Mo_on_124 hl (by decide) rfl (fun ls hl => ?_)
      have hl : lv_has ls 8 [(4, .int x33), (3, .int x26), (0, .ref (aw_m ad 0)), (1, .long b), (5, .int (nI 0)), (6, .int (nI (1 + t)))] := hl
      refine lv_iinc (k := 5) (v := nI (1 + t + 1)) hx hb d_Mo_on_126 hl rfl (aw_inc (1 + t) 1 1 (by decide +kernel)) (by decide) rfl (fun ls hl => ?_)
      have hl : lv_has ls 8 [(6, .int (nI (1 + t + 1))), (4, .int x33), (3, .int x26), (0, .ref (aw_m ad 0)), (1, .long b), (5, .int (nI 0))] := hl
      refine lv_goto (tgt := 77) hx hb d_Mo_on_129 (by decide) ?_
      have hl := lv_sub hl (l' := [(0, .ref (aw_m ad 0)), (1, .long b), (3, .int x26), (4, .int x33), (5, .int (nI 0)), (6, .int (nI (1 + t + 1)))]) [3, 4, 2, 1, 5, 0] rfl
      have g0 : x26 = (v_Mo_on0V_L77 zI b (t + 1)).1 := by subst ex33 ex32 ex28 ex27 ex26 ex25 ex21 ex20 ex16 ex15 ex11 ex10 ex9 ex5 ex2 ex1; (rw [v_Mo_on0V_L77_s]) <;> rfl
      have g1 : x33 = (v_Mo_on0V_L77 zI b (t + 1)).2 := by subst ex33 ex32 ex28 ex27 ex26 ex25 ex21 ex20 ex16 ex15 ex11 ex10 ex9 ex5 ex2 ex1; (rw [v_Mo_on0V_L77_s]) <;> rfl
      have hl : lv_has ls 8 [(0, .ref (aw_m ad 0)), (1, .long b), (3, .int ((v_Mo_on0V_L77 zI b (t + 1)).1)), (4, .int ((v_Mo_on0V_L77 zI b (t + 1)).2)), (5, .int (nI 0)), (6, .int (nI (1 + t + 1)))] := by rw [← g0, ← g1]; exact hl
      exact ih (t + 1) H locs L ls (by omega) hP hD hSh hS (by first | exact hl | simpa [Nat.add_assoc, Nat.mul_add, Nat.add_comm] using hl)
  have hl := lv_sub hl (l' := [(0, .ref (aw_m ad 0)), (1, .long b), (3, .int x10), (4, .int x16), (5, .int (nI 0)), (6, .int (nI 1))]) [4, 5, 2, 1, 3, 0] rfl
  have g0 : x10 = (v_Mo_on0V_L77 zI b 0).1 := by subst ex16 ex15 ex11 ex10 ex9 ex5 ex2 ex1; (rw [v_Mo_on0V_L77_z]) <;> rfl
  have g1 : x16 = (v_Mo_on0V_L77 zI b 0).2 := by subst ex16 ex15 ex11 ex10 ex9 ex5 ex2 ex1; (rw [v_Mo_on0V_L77_z]) <;> rfl
  have hl : lv_has ls 8 [(0, .ref (aw_m ad 0)), (1, .long b), (3, .int ((v_Mo_on0V_L77 zI b 0).1)), (4, .int ((v_Mo_on0V_L77 zI b 0).2)), (5, .int (nI 0)), (6, .int (nI 1))] := by rw [← g0, ← g1]; exact hl
  exact L77 12 0 _ _ L ls (by omega) hP hD hSh hS (by first | exact hl | simpa using hl)
noncomputable def v_Mo_on1V_L148 (zI : Nat → Nat → Int32) (b : Int64) (t : Nat) : Int32 × Int32 × Int32 := Nat.rec (motive := fun _ => Int32 × Int32 × Int32) (v_Mo_upperV b, (Int64.toInt32 b), nI 0) (fun t s => (((s.1) + ((((jI_shl (s.2.1) (nI 4)) ^^^ (jI_ushr (s.2.1) (nI 5))) + (s.2.1)) ^^^ ((s.2.2) + (zI 15 (((s.2.2) &&& nI 3).toNatClampNeg))))), ((s.2.1) + ((((jI_shl ((s.1) + ((((jI_shl (s.2.1) (nI 4)) ^^^ (jI_ushr (s.2.1) (nI 5))) + (s.2.1)) ^^^ ((s.2.2) + (zI 15 (((s.2.2) &&& nI 3).toNatClampNeg))))) (nI 4)) ^^^ (jI_ushr ((s.1) + ((((jI_shl (s.2.1) (nI 4)) ^^^ (jI_ushr (s.2.1) (nI 5))) + (s.2.1)) ^^^ ((s.2.2) + (zI 15 (((s.2.2) &&& nI 3).toNatClampNeg))))) (nI 5))) + ((s.1) + ((((jI_shl (s.2.1) (nI 4)) ^^^ (jI_ushr (s.2.1) (nI 5))) + (s.2.1)) ^^^ ((s.2.2) + (zI 15 (((s.2.2) &&& nI 3).toNatClampNeg)))))) ^^^ (((s.2.2) + (-1640531527)) + (zI 15 (((jI_ushr ((s.2.2) + (-1640531527)) (nI 11)) &&& nI 3).toNatClampNeg))))), ((s.2.2) + (-1640531527)))) t
theorem v_Mo_on1V_L148_z (zI : Nat → Nat → Int32) (b : Int64) : v_Mo_on1V_L148 zI b 0 = (v_Mo_upperV b, (Int64.toInt32 b), nI 0) := rfl
theorem v_Mo_on1V_L148_s (zI : Nat → Nat → Int32) (b : Int64) (t : Nat) : v_Mo_on1V_L148 zI b (t + 1) = ((((v_Mo_on1V_L148 zI b t).1) + ((((jI_shl ((v_Mo_on1V_L148 zI b t).2.1) (nI 4)) ^^^ (jI_ushr ((v_Mo_on1V_L148 zI b t).2.1) (nI 5))) + ((v_Mo_on1V_L148 zI b t).2.1)) ^^^ (((v_Mo_on1V_L148 zI b t).2.2) + (zI 15 ((((v_Mo_on1V_L148 zI b t).2.2) &&& nI 3).toNatClampNeg))))), (((v_Mo_on1V_L148 zI b t).2.1) + ((((jI_shl (((v_Mo_on1V_L148 zI b t).1) + ((((jI_shl ((v_Mo_on1V_L148 zI b t).2.1) (nI 4)) ^^^ (jI_ushr ((v_Mo_on1V_L148 zI b t).2.1) (nI 5))) + ((v_Mo_on1V_L148 zI b t).2.1)) ^^^ (((v_Mo_on1V_L148 zI b t).2.2) + (zI 15 ((((v_Mo_on1V_L148 zI b t).2.2) &&& nI 3).toNatClampNeg))))) (nI 4)) ^^^ (jI_ushr (((v_Mo_on1V_L148 zI b t).1) + ((((jI_shl ((v_Mo_on1V_L148 zI b t).2.1) (nI 4)) ^^^ (jI_ushr ((v_Mo_on1V_L148 zI b t).2.1) (nI 5))) + ((v_Mo_on1V_L148 zI b t).2.1)) ^^^ (((v_Mo_on1V_L148 zI b t).2.2) + (zI 15 ((((v_Mo_on1V_L148 zI b t).2.2) &&& nI 3).toNatClampNeg))))) (nI 5))) + (((v_Mo_on1V_L148 zI b t).1) + ((((jI_shl ((v_Mo_on1V_L148 zI b t).2.1) (nI 4)) ^^^ (jI_ushr ((v_Mo_on1V_L148 zI b t).2.1) (nI 5))) + ((v_Mo_on1V_L148 zI b t).2.1)) ^^^ (((v_Mo_on1V_L148 zI b t).2.2) + (zI 15 ((((v_Mo_on1V_L148 zI b t).2.2) &&& nI 3).toNatClampNeg)))))) ^^^ ((((v_Mo_on1V_L148 zI b t).2.2) + (-1640531527)) + (zI 15 (((jI_ushr (((v_Mo_on1V_L148 zI b t).2.2) + (-1640531527)) (nI 11)) &&& nI 3).toNatClampNeg))))), (((v_Mo_on1V_L148 zI b t).2.2) + (-1640531527))) := rfl
noncomputable def v_Mo_on1V (zI : Nat → Nat → Int32) (b : Int64) : Int64 := v_Mo_joinedV ((v_Mo_on1V_L148 zI b 32).1) ((v_Mo_on1V_L148 zI b 32).2.1)
abbrev ws_Mo_on1V : List Cond := Cond.code y_Mo_on b_Mo_on 8 (some .long) :: aw_G
abbrev rm_Mo_on1V : Room := { frames := 2, cells := 0, slots := 0, locals := 56 }
set_option maxHeartbeats 4000000 in
set_option maxRecDepth 100000 in
theorem k_Mo_on1V (l : Launch) (D : va_G) (g : Nat → ClassId) (ad : Nat → Nat) (N0 : Nat) (zG : Nat → Nat × Nat) (zO : Nat → Nat) (zX : Nat → Nat → Int64) (zY : Nat → Nat → Int32) (zA : Nat → Nat → Nat → Int32) (zB : Nat → Int32) (zM : Nat → Nat × Nat) (zI : Nat → Nat → Int32) (zL : Nat → Nat → Int64) (zN : Nat) (zF : Int32) (zQ : Int64) (b : Int64) : Met l y_Mo_on ws_Mo_on1V rm_Mo_on1V (va_Pc ([.ref (aw_m ad 0), .long b] : List Value) (ag_B D g N0 (az_Sh g ad zG zO zX zY zA zB zM zI zL (nI 1) zN zF zQ))) (va_Ql (fun r (_ : Unit) => r = v_Mo_on1V zI b) (fun (_ : Unit) t => ag_H D N0 (az_Sh g ad zG zO zX zY zA zB zM zI zL (nI 1) zN zF zQ) t.heap) (aw_Z N0)) 0 0 (aw_Z N0) := by
  refine Met.ofW (cc := b_Mo_on) (maxL := 8) (ret := (some .long)) (by decide) rfl ?_
  intro p e s m args below meth c s₁ B hml hv
  obtain ⟨rfl, ⟨L, hP, hD, hSh⟩, hU⟩ := hv
  have hx := B.exec
  have hb := B.bytes
  have hr := B.returns
  have hG : ∀ w ∈ aw_G, w.before _ s = true := fun w h => atoms_spec (ws := ws_Mo_on1V) B.pre w (List.mem_cons_of_mem _ h)
  have hown : s.vm.findClass "RuleCiphersModel" = some m.cls := findClass_of_methodNamed B.named
  have hlocks := B.notSynchronized
  have hE := hU.1
  have hK := hE.1
  have hN := hE.2.1
  have hS : va_S (aw_Z N0) s.heap s.heap [] := va_S.rf
  have hl := lv_entry ([.ref (aw_m ad 0), .long b] : List Value) (n := 8) (Nat.le_of_ble_eq_true rfl)
  rw [lg_entry_eq]
  generalize (lg_sl ([.ref (aw_m ad 0), .long b] : List Value) ++ List.replicate (8 - (lg_sl ([.ref (aw_m ad 0), .long b] : List Value)).length) Slot.unset).toArray = ls at hl ⊢
  have hl : lv_has ls 8 [(0, .ref (aw_m ad 0)), (1, .long b)] := hl
  refine lv_lload_n hx hb d_Mo_on_0 rfl (lv_at hl 1 rfl) ?_
  refine aw_ci ((va_runS (As := [.long b]) (rest := []) ⟨hx, hb, hml, hown, hG⟩ (k_Mo_upperV l b) (aw_wS 1 hG gw_11_17 gw_11_15 gw_0_10 gw_11_16 rfl rfl hd_Mo_upper ⟨Nat.le_of_ble_eq_true rfl, Nat.le_of_ble_eq_true rfl⟩) aw_p0 rfl rfl hl.1 rfl (lv_room (Nat.le_of_ble_eq_true rfl)) d_Mo_on_1 ⟨Nat.le_of_ble_eq_true rfl, Nat.le_of_ble_eq_true rfl⟩).run) (fun x1 ex1 => ?_)
  have ex1 := ex1.symm
  refine lv_istore_n hx hb d_Mo_on_4 rfl hl (by decide) rfl (fun ls hl => ?_)
  have hl : lv_has ls 8 [(3, .int x1), (0, .ref (aw_m ad 0)), (1, .long b)] := hl
  refine lv_lload_n hx hb d_Mo_on_5 rfl (lv_at hl 2 rfl) ?_
  refine lv_l2i hx hb d_Mo_on_6 rfl ?_
  refine ag_topi (fun x2 ex2 => ?_)
  refine lv_istore hx hb d_Mo_on_7 hl (by decide) rfl (fun ls hl => ?_)
  have hl : lv_has ls 8 [(4, .int x2), (3, .int x1), (0, .ref (aw_m ad 0)), (1, .long b)] := hl
  refine lv_iconst (v := nI 0) hx hb d_Mo_on_9 (by decide +kernel) ?_
  refine lv_istore hx hb d_Mo_on_10 hl (by decide) rfl (fun ls hl => ?_)
  have hl : lv_has ls 8 [(5, .int (nI 0)), (4, .int x2), (3, .int x1), (0, .ref (aw_m ad 0)), (1, .long b)] := hl
  refine lv_aload_n hx hb d_Mo_on_12 rfl (lv_at hl 3 rfl) ?_
  obtain ⟨hsd4, he3⟩ := zr_M0 hSh
  refine va_get (C := R_Mo) (T := T_Mo) (N := 19) (v := .int (nI 1)) hx hb hG in_Mo hown hK hP 67 he3 rfl 15 (by decide) (hG _ gw_9_40) (fun _ h => h) rfl d_Mo_on_13 ?_
  clear he3
  refine lv_tableIn (tgt := 145) (off := 129) hx hb d_Mo_on_16 (by decide +kernel) (by decide +kernel) (by decide +kernel) (by decide) ?_
  refine lv_iconst (v := nI 0) hx hb d_Mo_on_145 (by decide +kernel) ?_
  refine lv_istore hx hb d_Mo_on_146 hl (by decide) rfl (fun ls hl => ?_)
  have hl : lv_has ls 8 [(6, .int (nI 0)), (5, .int (nI 0)), (4, .int x2), (3, .int x1), (0, .ref (aw_m ad 0)), (1, .long b)] := hl
  have L148 : ∀ (d t : Nat) (H : Heap) (locs : List Loc) (L : va_W) (ls : Array Slot), t + d = 32 → va_P D aw_C L H → va_D (aw_Z N0) L → az_Sh g ad zG zO zX zY zA zB zM zI zL (nI 1) zN zF zQ L → va_S (aw_Z N0) s.heap H locs → lv_has ls 8 [(0, .ref (aw_m ad 0)), (1, .long b), (3, .int ((v_Mo_on1V_L148 zI b t).1)), (4, .int ((v_Mo_on1V_L148 zI b t).2.1)), (5, .int ((v_Mo_on1V_L148 zI b t).2.2)), (6, .int (nI t))] → W p l e (headSpec ws_Mo_on1V rm_Mo_on1V).room s m ([.ref (aw_m ad 0), .long b] : List Value).toArray below meth c H locs 0 0 (MQ below (va_Ql (fun r (_ : Unit) => r = v_Mo_on1V zI b) (fun (_ : Unit) t => ag_H D N0 (az_Sh g ad zG zO zX zY zA zB zM zI zL (nI 1) zN zF zQ) t.heap) (aw_Z N0)) ([.ref (aw_m ad 0), .long b] : List Value).toArray s 0 0 (aw_Z N0)) (F0 m 148 ls []) := by
    clear hl hP hD hSh hS
    intro d
    induction d with
    | zero =>
      intro t H locs L ls ht0 hP hD hSh hS hl
      have ht1 : t = 32 := by omega
      subst ht1
      refine lv_iload hx hb d_Mo_on_148 (lv_at hl 5 rfl) ?_
      refine lv_bipush (v := nI 32) hx hb d_Mo_on_150 (by decide +kernel) ?_
      refine lv_icmp_ge (tgt := 226) hx hb d_Mo_on_152 (by decide) (fun _ => ?_) (fun h => absurd (show nI 32 ≤ nI 32 from (nI_leI (by omega) (by omega)).mpr (by omega)) h)
      refine lv_iload_n hx hb d_Mo_on_226 rfl (lv_at hl 2 rfl) ?_
      refine lv_iload hx hb d_Mo_on_227 (lv_at hl 3 rfl) ?_
      refine aw_cl ((va_runS (As := [.int ((v_Mo_on1V_L148 zI b 32).1), .int ((v_Mo_on1V_L148 zI b 32).2.1)]) (rest := []) ⟨hx, hb, hml, hown, hG⟩ (k_Mo_joinedV l ((v_Mo_on1V_L148 zI b 32).1) ((v_Mo_on1V_L148 zI b 32).2.1)) (aw_wS 2 hG gw_11_43 gw_11_41 gw_0_10 gw_11_42 rfl rfl hd_Mo_joined ⟨Nat.le_of_ble_eq_true rfl, Nat.le_of_ble_eq_true rfl⟩) aw_p0 rfl rfl hl.1 rfl (lv_room (Nat.le_of_ble_eq_true rfl)) d_Mo_on_229 ⟨Nat.le_of_ble_eq_true rfl, Nat.le_of_ble_eq_true rfl⟩).run) (fun y5 ey5 => ?_)
      have ey5 := ey5.symm
      exact W.lret hx hb hr (fun t ht hW => ⟨⟨_, (), rfl, (by subst ey5 ex2 ex1; rfl), ag_Hr ht hP hD hSh⟩, hS.F ht⟩) hS.2.2 d_Mo_on_232
    | succ d ih =>
      intro t H locs L ls ht0 hP hD hSh hS hl
      refine lv_iload hx hb d_Mo_on_148 (lv_at hl 5 rfl) ?_
      refine lv_bipush (v := nI 32) hx hb d_Mo_on_150 (by decide +kernel) ?_
      refine lv_icmp_ge (tgt := 226) hx hb d_Mo_on_152 (by decide) (fun h => absurd h (show ¬ nI 32 ≤ nI t from fun h9 => absurd ((nI_leI (by omega) (by omega)).mp h9) (by omega))) (fun _ => ?_)
      refine lv_iload_n hx hb d_Mo_on_155 rfl (lv_at hl 2 rfl) ?_
      refine lv_iload hx hb d_Mo_on_156 (lv_at hl 3 rfl) ?_
      refine lv_iconst (v := nI 4) hx hb d_Mo_on_158 (by decide +kernel) ?_
      refine lv_ishl hx hb d_Mo_on_159 ?_
      refine ag_topi (fun x6 ex6 => ?_)
      refine lv_iload hx hb d_Mo_on_160 (lv_at hl 3 rfl) ?_
      refine lv_iconst (v := nI 5) hx hb d_Mo_on_162 (by decide +kernel) ?_
      refine lv_iushr hx hb d_Mo_on_163 rfl ?_
      refine ag_topi (fun x7 ex7 => ?_)
      refine lv_ixor hx hb d_Mo_on_164 ?_
      refine ag_topi (fun x8 ex8 => ?_)
      refine lv_iload hx hb d_Mo_on_165 (lv_at hl 3 rfl) ?_
      refine lv_iadd hx hb d_Mo_on_167 ?_
      refine ag_topi (fun x9 ex9 => ?_)
      refine lv_iload hx hb d_Mo_on_168 (lv_at hl 4 rfl) ?_
      refine lv_aload_n hx hb d_Mo_on_170 rfl (lv_at hl 0 rfl) ?_
      obtain ⟨hsd11, he10⟩ := zr_M0 hSh
      refine va_get (C := R_Mo) (T := T_Mo) (N := 19) (v := .ref (aw_m ad 15)) hx hb hG in_Mo hown hK hP 67 he10 rfl 17 (by decide) (hG _ gw_9_42) (fun _ h => h) rfl d_Mo_on_171 ?_
      clear he10
      refine lv_iload hx hb d_Mo_on_174 (lv_at hl 4 rfl) ?_
      refine lv_iconst (v := nI 3) hx hb d_Mo_on_176 (by decide +kernel) ?_
      refine lv_iand hx hb d_Mo_on_177 ?_
      obtain ⟨k12, hk12, ek12⟩ := pk_andE ((v_Mo_on1V_L148 zI b t).2.2) (m := nI 3) 2 (by decide +kernel)
      have fk12 : (((v_Mo_on1V_L148 zI b t).2.2) &&& nI 3).toNatClampNeg = k12 := by rw [ek12, nI_clamp (by omega)]
      refine aw_ti ek12 ?_
      have he13 := zr_M15 hSh
      refine aw_ild hx hb hK hP 82 0 he13 rfl (k := k12) (by omega) (by decide) d_Mo_on_178 ?_
      clear he13
      refine ag_topi (fun x14 ex14 => ?_)
      refine lv_iadd hx hb d_Mo_on_179 ?_
      refine ag_topi (fun x15 ex15 => ?_)
      refine lv_ixor hx hb d_Mo_on_180 ?_
      refine ag_topi (fun x16 ex16 => ?_)
      refine lv_iadd hx hb d_Mo_on_181 ?_
      refine ag_topi (fun x17 ex17 => ?_)
      refine lv_istore_n hx hb d_Mo_on_182 rfl hl (by decide) rfl (fun ls hl => ?_)
      have hl : lv_has ls 8 [(3, .int x17), (0, .ref (aw_m ad 0)), (1, .long b), (4, .int ((v_Mo_on1V_L148 zI b t).2.1)), (5, .int ((v_Mo_on1V_L148 zI b t).2.2)), (6, .int (nI t))] := hl
      refine lv_iload hx hb d_Mo_on_183 (lv_at hl 4 rfl) ?_
      refine lv_ldc (v := (-1640531527)) hx hb hown (hG _ gw_11_11) d_Mo_on_185 ?_
      refine lv_iadd hx hb d_Mo_on_187 ?_
      refine ag_topi (fun x18 ex18 => ?_)
      refine lv_istore hx hb d_Mo_on_188 hl (by decide) rfl (fun ls hl => ?_)
      have hl : lv_has ls 8 [(5, .int x18), (3, .int x17), (0, .ref (aw_m ad 0)), (1, .long b), (4, .int ((v_Mo_on1V_L148 zI b t).2.1)), (6, .int (nI t))] := hl
      refine lv_iload hx hb d_Mo_on_190 (lv_at hl 4 rfl) ?_
      refine lv_iload_n hx hb d_Mo_on_192 rfl (lv_at hl 1 rfl) ?_
      refine lv_iconst (v := nI 4) hx hb d_Mo_on_193 (by decide +kernel) ?_
      refine lv_ishl hx hb d_Mo_on_194 ?_
      refine ag_topi (fun x19 ex19 => ?_)
      refine lv_iload_n hx hb d_Mo_on_195 rfl (lv_at hl 1 rfl) ?_
      refine lv_iconst (v := nI 5) hx hb d_Mo_on_196 (by decide +kernel) ?_
      refine lv_iushr hx hb d_Mo_on_197 rfl ?_
      refine ag_topi (fun x20 ex20 => ?_)
      refine lv_ixor hx hb d_Mo_on_198 ?_
      refine ag_topi (fun x21 ex21 => ?_)
      refine lv_iload_n hx hb d_Mo_on_199 rfl (lv_at hl 1 rfl) ?_
      refine lv_iadd hx hb d_Mo_on_200 ?_
      refine ag_topi (fun x22 ex22 => ?_)
      refine lv_iload hx hb d_Mo_on_201 (lv_at hl 0 rfl) ?_
      refine lv_aload_n hx hb d_Mo_on_203 rfl (lv_at hl 2 rfl) ?_
      obtain ⟨hsd24, he23⟩ := zr_M0 hSh
      refine va_get (C := R_Mo) (T := T_Mo) (N := 19) (v := .ref (aw_m ad 15)) hx hb hG in_Mo hown hK hP 67 he23 rfl 17 (by decide) (hG _ gw_9_42) (fun _ h => h) rfl d_Mo_on_204 ?_
      clear he23
      refine lv_iload hx hb d_Mo_on_207 (lv_at hl 0 rfl) ?_
      refine lv_bipush (v := nI 11) hx hb d_Mo_on_209 (by decide +kernel) ?_
      refine lv_iushr hx hb d_Mo_on_211 rfl ?_
      refine ag_topi (fun x25 ex25 => ?_)
      refine lv_iconst (v := nI 3) hx hb d_Mo_on_212 (by decide +kernel) ?_
      refine lv_iand hx hb d_Mo_on_213 ?_
      obtain ⟨k26, hk26, ek26⟩ := pk_andE x25 (m := nI 3) 2 (by decide +kernel)
      have fk26 : (x25 &&& nI 3).toNatClampNeg = k26 := by rw [ek26, nI_clamp (by omega)]
      refine aw_ti ek26 ?_
      have he27 := zr_M15 hSh
      refine aw_ild hx hb hK hP 82 0 he27 rfl (k := k26) (by omega) (by decide) d_Mo_on_214 ?_
      clear he27
      refine ag_topi (fun x28 ex28 => ?_)
      refine lv_iadd hx hb d_Mo_on_215 ?_
      refine ag_topi (fun x29 ex29 => ?_)
      refine lv_ixor hx hb d_Mo_on_216 ?_
      refine ag_topi (fun x30 ex30 => ?_)
      refine lv_iadd hx hb d_Mo_on_217 ?_
      refine ag_topi (fun x31 ex31 => ?_)
      refine lv_istore hx hb d_Mo_on_218 hl (by decide) rfl (fun ls hl => ?_)
      have hl : lv_has ls 8 [(4, .int x31), (5, .int x18), (3, .int x17), (0, .ref (aw_m ad 0)), (1, .long b), (6, .int (nI t))] := hl
      refine lv_iinc (k := 5) (v := nI (t + 1)) hx hb d_Mo_on_220 hl rfl (aw_inc t 1 1 (by decide +kernel)) (by decide) rfl (fun ls hl => ?_)
      have hl : lv_has ls 8 [(6, .int (nI (t + 1))), (4, .int x31), (5, .int x18), (3, .int x17), (0, .ref (aw_m ad 0)), (1, .long b)] := hl
      refine lv_goto (tgt := 148) hx hb d_Mo_on_223 (by decide) ?_
      have hl := lv_sub hl (l' := [(0, .ref (aw_m ad 0)), (1, .long b), (3, .int x17), (4, .int x31), (5, .int x18), (6, .int (nI (t + 1)))]) [4, 5, 3, 1, 2, 0] rfl
      have g0 : x17 = (v_Mo_on1V_L148 zI b (t + 1)).1 := by subst ex31 ex30 ex29 ex28 fk26 ex25 ex22 ex21 ex20 ex19 ex18 ex17 ex16 ex15 ex14 fk12 ex9 ex8 ex7 ex6 ex2 ex1; (rw [v_Mo_on1V_L148_s]) <;> rfl
      have g1 : x31 = (v_Mo_on1V_L148 zI b (t + 1)).2.1 := by subst ex31 ex30 ex29 ex28 fk26 ex25 ex22 ex21 ex20 ex19 ex18 ex17 ex16 ex15 ex14 fk12 ex9 ex8 ex7 ex6 ex2 ex1; (rw [v_Mo_on1V_L148_s]) <;> rfl
      have g2 : x18 = (v_Mo_on1V_L148 zI b (t + 1)).2.2 := by subst ex31 ex30 ex29 ex28 fk26 ex25 ex22 ex21 ex20 ex19 ex18 ex17 ex16 ex15 ex14 fk12 ex9 ex8 ex7 ex6 ex2 ex1; (rw [v_Mo_on1V_L148_s]) <;> rfl
      have hl : lv_has ls 8 [(0, .ref (aw_m ad 0)), (1, .long b), (3, .int ((v_Mo_on1V_L148 zI b (t + 1)).1)), (4, .int ((v_Mo_on1V_L148 zI b (t + 1)).2.1)), (5, .int ((v_Mo_on1V_L148 zI b (t + 1)).2.2)), (6, .int (nI (t + 1)))] := by rw [← g0, ← g1, ← g2]; exact hl
      exact ih (t + 1) H locs L ls (by omega) hP hD hSh hS (by first | exact hl | simpa [Nat.add_assoc, Nat.mul_add, Nat.add_comm] using hl)
  have hl := lv_sub hl (l' := [(0, .ref (aw_m ad 0)), (1, .long b), (3, .int x1), (4, .int x2), (5, .int (nI 0)), (6, .int (nI 0))]) [4, 5, 3, 2, 1, 0] rfl
  have g0 : x1 = (v_Mo_on1V_L148 zI b 0).1 := by subst ex2 ex1; (rw [v_Mo_on1V_L148_z]) <;> rfl
  have g1 : x2 = (v_Mo_on1V_L148 zI b 0).2.1 := by subst ex2 ex1; (rw [v_Mo_on1V_L148_z]) <;> rfl
  have g2 : nI 0 = (v_Mo_on1V_L148 zI b 0).2.2 := by subst ex2 ex1; (rw [v_Mo_on1V_L148_z]) <;> rfl
  have hl : lv_has ls 8 [(0, .ref (aw_m ad 0)), (1, .long b), (3, .int ((v_Mo_on1V_L148 zI b 0).1)), (4, .int ((v_Mo_on1V_L148 zI b 0).2.1)), (5, .int ((v_Mo_on1V_L148 zI b 0).2.2)), (6, .int (nI 0))] := by rw [← g0, ← g1]; exact hl
  exact L148 32 0 _ _ L ls (by omega) hP hD hSh hS (by first | exact hl | simpa using hl)
noncomputable def v_Mo_on2V_L236 (zI : Nat → Nat → Int32) (b : Int64) (t : Nat) : Int32 × Int32 := Nat.rec (motive := fun _ => Int32 × Int32) (v_Mo_upperV b, (Int64.toInt32 b)) (fun t s => ((((v_Mo_backV (s.1) (nI 8)) + (s.2)) ^^^ (zI 15 t)), ((v_Mo_turnV (s.2) (nI 3)) ^^^ (((v_Mo_backV (s.1) (nI 8)) + (s.2)) ^^^ (zI 15 t))))) t
theorem v_Mo_on2V_L236_z (zI : Nat → Nat → Int32) (b : Int64) : v_Mo_on2V_L236 zI b 0 = (v_Mo_upperV b, (Int64.toInt32 b)) := rfl
theorem v_Mo_on2V_L236_s (zI : Nat → Nat → Int32) (b : Int64) (t : Nat) : v_Mo_on2V_L236 zI b (t + 1) = ((((v_Mo_backV ((v_Mo_on2V_L236 zI b t).1) (nI 8)) + ((v_Mo_on2V_L236 zI b t).2)) ^^^ (zI 15 t)), ((v_Mo_turnV ((v_Mo_on2V_L236 zI b t).2) (nI 3)) ^^^ (((v_Mo_backV ((v_Mo_on2V_L236 zI b t).1) (nI 8)) + ((v_Mo_on2V_L236 zI b t).2)) ^^^ (zI 15 t)))) := rfl
noncomputable def v_Mo_on2V (zI : Nat → Nat → Int32) (b : Int64) : Int64 := v_Mo_joinedV ((v_Mo_on2V_L236 zI b 27).1) ((v_Mo_on2V_L236 zI b 27).2)
abbrev ws_Mo_on2V : List Cond := Cond.code y_Mo_on b_Mo_on 8 (some .long) :: aw_G
abbrev rm_Mo_on2V : Room := { frames := 2, cells := 0, slots := 0, locals := 56 }
set_option maxHeartbeats 4000000 in
set_option maxRecDepth 100000 in
theorem k_Mo_on2V (l : Launch) (D : va_G) (g : Nat → ClassId) (ad : Nat → Nat) (N0 : Nat) (zG : Nat → Nat × Nat) (zO : Nat → Nat) (zX : Nat → Nat → Int64) (zY : Nat → Nat → Int32) (zA : Nat → Nat → Nat → Int32) (zB : Nat → Int32) (zM : Nat → Nat × Nat) (zI : Nat → Nat → Int32) (zL : Nat → Nat → Int64) (zN : Nat) (zF : Int32) (zQ : Int64) (b : Int64) : Met l y_Mo_on ws_Mo_on2V rm_Mo_on2V (va_Pc ([.ref (aw_m ad 0), .long b] : List Value) (ag_B D g N0 (az_Sh g ad zG zO zX zY zA zB zM zI zL (nI 2) zN zF zQ))) (va_Ql (fun r (_ : Unit) => r = v_Mo_on2V zI b) (fun (_ : Unit) t => ag_H D N0 (az_Sh g ad zG zO zX zY zA zB zM zI zL (nI 2) zN zF zQ) t.heap) (aw_Z N0)) 0 0 (aw_Z N0) := by
  refine Met.ofW (cc := b_Mo_on) (maxL := 8) (ret := (some .long)) (by decide) rfl ?_
  intro p e s m args below meth c s₁ B hml hv
  obtain ⟨rfl, ⟨L, hP, hD, hSh⟩, hU⟩ := hv
  have hx := B.exec
  have hb := B.bytes
  have hr := B.returns
  have hG : ∀ w ∈ aw_G, w.before _ s = true := fun w h => atoms_spec (ws := ws_Mo_on2V) B.pre w (List.mem_cons_of_mem _ h)
  have hown : s.vm.findClass "RuleCiphersModel" = some m.cls := findClass_of_methodNamed B.named
  have hlocks := B.notSynchronized
  have hE := hU.1
  have hK := hE.1
  have hN := hE.2.1
  have hS : va_S (aw_Z N0) s.heap s.heap [] := va_S.rf
  have hl := lv_entry ([.ref (aw_m ad 0), .long b] : List Value) (n := 8) (Nat.le_of_ble_eq_true rfl)
  rw [lg_entry_eq]
  generalize (lg_sl ([.ref (aw_m ad 0), .long b] : List Value) ++ List.replicate (8 - (lg_sl ([.ref (aw_m ad 0), .long b] : List Value)).length) Slot.unset).toArray = ls at hl ⊢
  have hl : lv_has ls 8 [(0, .ref (aw_m ad 0)), (1, .long b)] := hl
  refine lv_lload_n hx hb d_Mo_on_0 rfl (lv_at hl 1 rfl) ?_
  refine aw_ci ((va_runS (As := [.long b]) (rest := []) ⟨hx, hb, hml, hown, hG⟩ (k_Mo_upperV l b) (aw_wS 1 hG gw_11_17 gw_11_15 gw_0_10 gw_11_16 rfl rfl hd_Mo_upper ⟨Nat.le_of_ble_eq_true rfl, Nat.le_of_ble_eq_true rfl⟩) aw_p0 rfl rfl hl.1 rfl (lv_room (Nat.le_of_ble_eq_true rfl)) d_Mo_on_1 ⟨Nat.le_of_ble_eq_true rfl, Nat.le_of_ble_eq_true rfl⟩).run) (fun x1 ex1 => ?_)
  have ex1 := ex1.symm
  refine lv_istore_n hx hb d_Mo_on_4 rfl hl (by decide) rfl (fun ls hl => ?_)
  have hl : lv_has ls 8 [(3, .int x1), (0, .ref (aw_m ad 0)), (1, .long b)] := hl
  refine lv_lload_n hx hb d_Mo_on_5 rfl (lv_at hl 2 rfl) ?_
  refine lv_l2i hx hb d_Mo_on_6 rfl ?_
  refine ag_topi (fun x2 ex2 => ?_)
  refine lv_istore hx hb d_Mo_on_7 hl (by decide) rfl (fun ls hl => ?_)
  have hl : lv_has ls 8 [(4, .int x2), (3, .int x1), (0, .ref (aw_m ad 0)), (1, .long b)] := hl
  refine lv_iconst (v := nI 0) hx hb d_Mo_on_9 (by decide +kernel) ?_
  refine lv_istore hx hb d_Mo_on_10 hl (by decide) rfl (fun ls hl => ?_)
  have hl : lv_has ls 8 [(5, .int (nI 0)), (4, .int x2), (3, .int x1), (0, .ref (aw_m ad 0)), (1, .long b)] := hl
  refine lv_aload_n hx hb d_Mo_on_12 rfl (lv_at hl 3 rfl) ?_
  obtain ⟨hsd4, he3⟩ := zr_M0 hSh
  refine va_get (C := R_Mo) (T := T_Mo) (N := 19) (v := .int (nI 2)) hx hb hG in_Mo hown hK hP 67 he3 rfl 15 (by decide) (hG _ gw_9_40) (fun _ h => h) rfl d_Mo_on_13 ?_
  clear he3
  refine lv_tableIn (tgt := 233) (off := 217) hx hb d_Mo_on_16 (by decide +kernel) (by decide +kernel) (by decide +kernel) (by decide) ?_
  refine lv_iconst (v := nI 0) hx hb d_Mo_on_233 (by decide +kernel) ?_
  refine lv_istore hx hb d_Mo_on_234 hl (by decide) rfl (fun ls hl => ?_)
  have hl : lv_has ls 8 [(6, .int (nI 0)), (5, .int (nI 0)), (4, .int x2), (3, .int x1), (0, .ref (aw_m ad 0)), (1, .long b)] := hl
  have L236 : ∀ (d t : Nat) (H : Heap) (locs : List Loc) (L : va_W) (ls : Array Slot), t + d = 27 → va_P D aw_C L H → va_D (aw_Z N0) L → az_Sh g ad zG zO zX zY zA zB zM zI zL (nI 2) zN zF zQ L → va_S (aw_Z N0) s.heap H locs → lv_has ls 8 [(0, .ref (aw_m ad 0)), (1, .long b), (3, .int ((v_Mo_on2V_L236 zI b t).1)), (4, .int ((v_Mo_on2V_L236 zI b t).2)), (5, .int (nI 0)), (6, .int (nI t))] → W p l e (headSpec ws_Mo_on2V rm_Mo_on2V).room s m ([.ref (aw_m ad 0), .long b] : List Value).toArray below meth c H locs 0 0 (MQ below (va_Ql (fun r (_ : Unit) => r = v_Mo_on2V zI b) (fun (_ : Unit) t => ag_H D N0 (az_Sh g ad zG zO zX zY zA zB zM zI zL (nI 2) zN zF zQ) t.heap) (aw_Z N0)) ([.ref (aw_m ad 0), .long b] : List Value).toArray s 0 0 (aw_Z N0)) (F0 m 236 ls []) := by
    clear hl hP hD hSh hS
    intro d
    induction d with
    | zero =>
      intro t H locs L ls ht0 hP hD hSh hS hl
      have ht1 : t = 27 := by omega
      subst ht1
      refine lv_iload hx hb d_Mo_on_236 (lv_at hl 5 rfl) ?_
      refine lv_bipush (v := nI 27) hx hb d_Mo_on_238 (by decide +kernel) ?_
      refine lv_icmp_ge (tgt := 277) hx hb d_Mo_on_240 (by decide) (fun _ => ?_) (fun h => absurd (show nI 27 ≤ nI 27 from (nI_leI (by omega) (by omega)).mpr (by omega)) h)
      refine lv_iload_n hx hb d_Mo_on_277 rfl (lv_at hl 2 rfl) ?_
      refine lv_iload hx hb d_Mo_on_278 (lv_at hl 3 rfl) ?_
      refine aw_cl ((va_runS (As := [.int ((v_Mo_on2V_L236 zI b 27).1), .int ((v_Mo_on2V_L236 zI b 27).2)]) (rest := []) ⟨hx, hb, hml, hown, hG⟩ (k_Mo_joinedV l ((v_Mo_on2V_L236 zI b 27).1) ((v_Mo_on2V_L236 zI b 27).2)) (aw_wS 2 hG gw_11_43 gw_11_41 gw_0_10 gw_11_42 rfl rfl hd_Mo_joined ⟨Nat.le_of_ble_eq_true rfl, Nat.le_of_ble_eq_true rfl⟩) aw_p0 rfl rfl hl.1 rfl (lv_room (Nat.le_of_ble_eq_true rfl)) d_Mo_on_280 ⟨Nat.le_of_ble_eq_true rfl, Nat.le_of_ble_eq_true rfl⟩).run) (fun y5 ey5 => ?_)
      have ey5 := ey5.symm
      exact W.lret hx hb hr (fun t ht hW => ⟨⟨_, (), rfl, (by subst ey5 ex2 ex1; rfl), ag_Hr ht hP hD hSh⟩, hS.F ht⟩) hS.2.2 d_Mo_on_283
    | succ d ih =>
      intro t H locs L ls ht0 hP hD hSh hS hl
      refine lv_iload hx hb d_Mo_on_236 (lv_at hl 5 rfl) ?_
      refine lv_bipush (v := nI 27) hx hb d_Mo_on_238 (by decide +kernel) ?_
      refine lv_icmp_ge (tgt := 277) hx hb d_Mo_on_240 (by decide) (fun h => absurd h (show ¬ nI 27 ≤ nI t from fun h9 => absurd ((nI_leI (by omega) (by omega)).mp h9) (by omega))) (fun _ => ?_)
      refine lv_iload_n hx hb d_Mo_on_243 rfl (lv_at hl 2 rfl) ?_
      refine lv_bipush (v := nI 8) hx hb d_Mo_on_244 (by decide +kernel) ?_
      refine aw_ci ((va_runS (As := [.int ((v_Mo_on2V_L236 zI b t).1), .int (nI 8)]) (rest := []) ⟨hx, hb, hml, hown, hG⟩ (k_Mo_backV l ((v_Mo_on2V_L236 zI b t).1) (nI 8)) (aw_wS 2 hG gw_11_27 gw_11_25 gw_0_10 gw_11_26 rfl rfl hd_Mo_back ⟨Nat.le_of_ble_eq_true rfl, Nat.le_of_ble_eq_true rfl⟩) aw_p0 rfl rfl hl.1 rfl (lv_room (Nat.le_of_ble_eq_true rfl)) d_Mo_on_246 ⟨Nat.le_of_ble_eq_true rfl, Nat.le_of_ble_eq_true rfl⟩).run) (fun x6 ex6 => ?_)
      have ex6 := ex6.symm
      refine lv_iload hx hb d_Mo_on_249 (lv_at hl 3 rfl) ?_
      refine lv_iadd hx hb d_Mo_on_251 ?_
      refine ag_topi (fun x7 ex7 => ?_)
      refine lv_aload_n hx hb d_Mo_on_252 rfl (lv_at hl 0 rfl) ?_
      obtain ⟨hsd9, he8⟩ := zr_M0 hSh
      refine va_get (C := R_Mo) (T := T_Mo) (N := 19) (v := .ref (aw_m ad 15)) hx hb hG in_Mo hown hK hP 67 he8 rfl 17 (by decide) (hG _ gw_9_42) (fun _ h => h) rfl d_Mo_on_253 ?_
      clear he8
      refine lv_iload hx hb d_Mo_on_256 (lv_at hl 5 rfl) ?_
      have he10 := zr_M15 hSh
      refine aw_ild hx hb hK hP 82 0 he10 rfl (k := t) (by omega) (by decide) d_Mo_on_258 ?_
      clear he10
      refine ag_topi (fun x11 ex11 => ?_)
      refine lv_ixor hx hb d_Mo_on_259 ?_
      refine ag_topi (fun x12 ex12 => ?_)
      refine lv_istore_n hx hb d_Mo_on_260 rfl hl (by decide) rfl (fun ls hl => ?_)
      have hl : lv_has ls 8 [(3, .int x12), (0, .ref (aw_m ad 0)), (1, .long b), (4, .int ((v_Mo_on2V_L236 zI b t).2)), (5, .int (nI 0)), (6, .int (nI t))] := hl
      refine lv_iload hx hb d_Mo_on_261 (lv_at hl 3 rfl) ?_
      refine lv_iconst (v := nI 3) hx hb d_Mo_on_263 (by decide +kernel) ?_
      refine aw_ci ((va_runS (As := [.int ((v_Mo_on2V_L236 zI b t).2), .int (nI 3)]) (rest := []) ⟨hx, hb, hml, hown, hG⟩ (k_Mo_turnV l ((v_Mo_on2V_L236 zI b t).2) (nI 3)) (aw_wS 2 hG gw_11_24 gw_11_22 gw_0_10 gw_11_23 rfl rfl hd_Mo_turn ⟨Nat.le_of_ble_eq_true rfl, Nat.le_of_ble_eq_true rfl⟩) aw_p0 rfl rfl hl.1 rfl (lv_room (Nat.le_of_ble_eq_true rfl)) d_Mo_on_264 ⟨Nat.le_of_ble_eq_true rfl, Nat.le_of_ble_eq_true rfl⟩).run) (fun x13 ex13 => ?_)
      have ex13 := ex13.symm
      refine lv_iload_n hx hb d_Mo_on_267 rfl (lv_at hl 0 rfl) ?_
      refine lv_ixor hx hb d_Mo_on_268 ?_
      refine ag_topi (fun x14 ex14 => ?_)
      refine lv_istore hx hb d_Mo_on_269 hl (by decide) rfl (fun ls hl => ?_)
      have hl : lv_has ls 8 [(4, .int x14), (3, .int x12), (0, .ref (aw_m ad 0)), (1, .long b), (5, .int (nI 0)), (6, .int (nI t))] := hl
      refine lv_iinc (k := 5) (v := nI (t + 1)) hx hb d_Mo_on_271 hl rfl (aw_inc t 1 1 (by decide +kernel)) (by decide) rfl (fun ls hl => ?_)
      have hl : lv_has ls 8 [(6, .int (nI (t + 1))), (4, .int x14), (3, .int x12), (0, .ref (aw_m ad 0)), (1, .long b), (5, .int (nI 0))] := hl
      refine lv_goto (tgt := 236) hx hb d_Mo_on_274 (by decide) ?_
      have hl := lv_sub hl (l' := [(0, .ref (aw_m ad 0)), (1, .long b), (3, .int x12), (4, .int x14), (5, .int (nI 0)), (6, .int (nI (t + 1)))]) [3, 4, 2, 1, 5, 0] rfl
      have g0 : x12 = (v_Mo_on2V_L236 zI b (t + 1)).1 := by subst ex14 ex13 ex12 ex11 ex7 ex6 ex2 ex1; (rw [v_Mo_on2V_L236_s]) <;> rfl
      have g1 : x14 = (v_Mo_on2V_L236 zI b (t + 1)).2 := by subst ex14 ex13 ex12 ex11 ex7 ex6 ex2 ex1; (rw [v_Mo_on2V_L236_s]) <;> rfl
      have hl : lv_has ls 8 [(0, .ref (aw_m ad 0)), (1, .long b), (3, .int ((v_Mo_on2V_L236 zI b (t + 1)).1)), (4, .int ((v_Mo_on2V_L236 zI b (t + 1)).2)), (5, .int (nI 0)), (6, .int (nI (t + 1)))] := by rw [← g0, ← g1]; exact hl
      exact ih (t + 1) H locs L ls (by omega) hP hD hSh hS (by first | exact hl | simpa [Nat.add_assoc, Nat.mul_add, Nat.add_comm] using hl)
  have hl := lv_sub hl (l' := [(0, .ref (aw_m ad 0)), (1, .long b), (3, .int x1), (4, .int x2), (5, .int (nI 0)), (6, .int (nI 0))]) [4, 5, 3, 2, 1, 0] rfl
  have g0 : x1 = (v_Mo_on2V_L236 zI b 0).1 := by subst ex2 ex1; (rw [v_Mo_on2V_L236_z]) <;> rfl
  have g1 : x2 = (v_Mo_on2V_L236 zI b 0).2 := by subst ex2 ex1; (rw [v_Mo_on2V_L236_z]) <;> rfl
  have hl : lv_has ls 8 [(0, .ref (aw_m ad 0)), (1, .long b), (3, .int ((v_Mo_on2V_L236 zI b 0).1)), (4, .int ((v_Mo_on2V_L236 zI b 0).2)), (5, .int (nI 0)), (6, .int (nI 0))] := by rw [← g0, ← g1]; exact hl
  exact L236 27 0 _ _ L ls (by omega) hP hD hSh hS (by first | exact hl | simpa using hl)
noncomputable def v_Mo_on3V_L287 (zI : Nat → Nat → Int32) (b : Int64) (t : Nat) : Int32 × Int32 := Nat.rec (motive := fun _ => Int32 × Int32) (v_Mo_upperV b, (Int64.toInt32 b)) (fun t s => (((((s.2) ^^^ ((v_Mo_turnV (s.1) (nI 1)) &&& (v_Mo_turnV (s.1) (nI 8)))) ^^^ (v_Mo_turnV (s.1) (nI 2))) ^^^ (zI 15 t)), s.1)) t
theorem v_Mo_on3V_L287_z (zI : Nat → Nat → Int32) (b : Int64) : v_Mo_on3V_L287 zI b 0 = (v_Mo_upperV b, (Int64.toInt32 b)) := rfl
theorem v_Mo_on3V_L287_s (zI : Nat → Nat → Int32) (b : Int64) (t : Nat) : v_Mo_on3V_L287 zI b (t + 1) = ((((((v_Mo_on3V_L287 zI b t).2) ^^^ ((v_Mo_turnV ((v_Mo_on3V_L287 zI b t).1) (nI 1)) &&& (v_Mo_turnV ((v_Mo_on3V_L287 zI b t).1) (nI 8)))) ^^^ (v_Mo_turnV ((v_Mo_on3V_L287 zI b t).1) (nI 2))) ^^^ (zI 15 t)), (v_Mo_on3V_L287 zI b t).1) := rfl
noncomputable def v_Mo_on3V (zI : Nat → Nat → Int32) (b : Int64) : Int64 := v_Mo_joinedV ((v_Mo_on3V_L287 zI b 44).1) ((v_Mo_on3V_L287 zI b 44).2)
abbrev ws_Mo_on3V : List Cond := Cond.code y_Mo_on b_Mo_on 8 (some .long) :: aw_G
abbrev rm_Mo_on3V : Room := { frames := 2, cells := 0, slots := 0, locals := 56 }
set_option maxHeartbeats 4000000 in
set_option maxRecDepth 100000 in
theorem k_Mo_on3V (l : Launch) (D : va_G) (g : Nat → ClassId) (ad : Nat → Nat) (N0 : Nat) (zG : Nat → Nat × Nat) (zO : Nat → Nat) (zX : Nat → Nat → Int64) (zY : Nat → Nat → Int32) (zA : Nat → Nat → Nat → Int32) (zB : Nat → Int32) (zM : Nat → Nat × Nat) (zI : Nat → Nat → Int32) (zL : Nat → Nat → Int64) (zN : Nat) (zF : Int32) (zQ : Int64) (b : Int64) : Met l y_Mo_on ws_Mo_on3V rm_Mo_on3V (va_Pc ([.ref (aw_m ad 0), .long b] : List Value) (ag_B D g N0 (az_Sh g ad zG zO zX zY zA zB zM zI zL (nI 3) zN zF zQ))) (va_Ql (fun r (_ : Unit) => r = v_Mo_on3V zI b) (fun (_ : Unit) t => ag_H D N0 (az_Sh g ad zG zO zX zY zA zB zM zI zL (nI 3) zN zF zQ) t.heap) (aw_Z N0)) 0 0 (aw_Z N0) := by
  refine Met.ofW (cc := b_Mo_on) (maxL := 8) (ret := (some .long)) (by decide) rfl ?_
  intro p e s m args below meth c s₁ B hml hv
  obtain ⟨rfl, ⟨L, hP, hD, hSh⟩, hU⟩ := hv
  have hx := B.exec
  have hb := B.bytes
  have hr := B.returns
  have hG : ∀ w ∈ aw_G, w.before _ s = true := fun w h => atoms_spec (ws := ws_Mo_on3V) B.pre w (List.mem_cons_of_mem _ h)
  have hown : s.vm.findClass "RuleCiphersModel" = some m.cls := findClass_of_methodNamed B.named
  have hlocks := B.notSynchronized
  have hE := hU.1
  have hK := hE.1
  have hN := hE.2.1
  have hS : va_S (aw_Z N0) s.heap s.heap [] := va_S.rf
  have hl := lv_entry ([.ref (aw_m ad 0), .long b] : List Value) (n := 8) (Nat.le_of_ble_eq_true rfl)
  rw [lg_entry_eq]
  generalize (lg_sl ([.ref (aw_m ad 0), .long b] : List Value) ++ List.replicate (8 - (lg_sl ([.ref (aw_m ad 0), .long b] : List Value)).length) Slot.unset).toArray = ls at hl ⊢
  have hl : lv_has ls 8 [(0, .ref (aw_m ad 0)), (1, .long b)] := hl
  refine lv_lload_n hx hb d_Mo_on_0 rfl (lv_at hl 1 rfl) ?_
  refine aw_ci ((va_runS (As := [.long b]) (rest := []) ⟨hx, hb, hml, hown, hG⟩ (k_Mo_upperV l b) (aw_wS 1 hG gw_11_17 gw_11_15 gw_0_10 gw_11_16 rfl rfl hd_Mo_upper ⟨Nat.le_of_ble_eq_true rfl, Nat.le_of_ble_eq_true rfl⟩) aw_p0 rfl rfl hl.1 rfl (lv_room (Nat.le_of_ble_eq_true rfl)) d_Mo_on_1 ⟨Nat.le_of_ble_eq_true rfl, Nat.le_of_ble_eq_true rfl⟩).run) (fun x1 ex1 => ?_)
  have ex1 := ex1.symm
  refine lv_istore_n hx hb d_Mo_on_4 rfl hl (by decide) rfl (fun ls hl => ?_)
  have hl : lv_has ls 8 [(3, .int x1), (0, .ref (aw_m ad 0)), (1, .long b)] := hl
  refine lv_lload_n hx hb d_Mo_on_5 rfl (lv_at hl 2 rfl) ?_
  refine lv_l2i hx hb d_Mo_on_6 rfl ?_
  refine ag_topi (fun x2 ex2 => ?_)
  refine lv_istore hx hb d_Mo_on_7 hl (by decide) rfl (fun ls hl => ?_)
  have hl : lv_has ls 8 [(4, .int x2), (3, .int x1), (0, .ref (aw_m ad 0)), (1, .long b)] := hl
  refine lv_iconst (v := nI 0) hx hb d_Mo_on_9 (by decide +kernel) ?_
  refine lv_istore hx hb d_Mo_on_10 hl (by decide) rfl (fun ls hl => ?_)
  have hl : lv_has ls 8 [(5, .int (nI 0)), (4, .int x2), (3, .int x1), (0, .ref (aw_m ad 0)), (1, .long b)] := hl
  refine lv_aload_n hx hb d_Mo_on_12 rfl (lv_at hl 3 rfl) ?_
  obtain ⟨hsd4, he3⟩ := zr_M0 hSh
  refine va_get (C := R_Mo) (T := T_Mo) (N := 19) (v := .int (nI 3)) hx hb hG in_Mo hown hK hP 67 he3 rfl 15 (by decide) (hG _ gw_9_40) (fun _ h => h) rfl d_Mo_on_13 ?_
  clear he3
  refine lv_tableIn (tgt := 284) (off := 268) hx hb d_Mo_on_16 (by decide +kernel) (by decide +kernel) (by decide +kernel) (by decide) ?_
  refine lv_iconst (v := nI 0) hx hb d_Mo_on_284 (by decide +kernel) ?_
  refine lv_istore hx hb d_Mo_on_285 hl (by decide) rfl (fun ls hl => ?_)
  have hl : lv_has ls 8 [(6, .int (nI 0)), (5, .int (nI 0)), (4, .int x2), (3, .int x1), (0, .ref (aw_m ad 0)), (1, .long b)] := hl
  have L287 : ∀ (d t : Nat) (H : Heap) (locs : List Loc) (L : va_W) (ls : Array Slot), t + d = 44 → va_P D aw_C L H → va_D (aw_Z N0) L → az_Sh g ad zG zO zX zY zA zB zM zI zL (nI 3) zN zF zQ L → va_S (aw_Z N0) s.heap H locs → lv_has ls 8 [(0, .ref (aw_m ad 0)), (1, .long b), (3, .int ((v_Mo_on3V_L287 zI b t).1)), (4, .int ((v_Mo_on3V_L287 zI b t).2)), (5, .int (nI 0)), (6, .int (nI t))] → W p l e (headSpec ws_Mo_on3V rm_Mo_on3V).room s m ([.ref (aw_m ad 0), .long b] : List Value).toArray below meth c H locs 0 0 (MQ below (va_Ql (fun r (_ : Unit) => r = v_Mo_on3V zI b) (fun (_ : Unit) t => ag_H D N0 (az_Sh g ad zG zO zX zY zA zB zM zI zL (nI 3) zN zF zQ) t.heap) (aw_Z N0)) ([.ref (aw_m ad 0), .long b] : List Value).toArray s 0 0 (aw_Z N0)) (F0 m 287 ls []) := by
    clear hl hP hD hSh hS
    intro d
    induction d with
    | zero =>
      intro t H locs L ls ht0 hP hD hSh hS hl
      have ht1 : t = 44 := by omega
      subst ht1
      refine lv_iload hx hb d_Mo_on_287 (lv_at hl 5 rfl) ?_
      refine lv_bipush (v := nI 44) hx hb d_Mo_on_289 (by decide +kernel) ?_
      refine lv_icmp_ge (tgt := 337) hx hb d_Mo_on_291 (by decide) (fun _ => ?_) (fun h => absurd (show nI 44 ≤ nI 44 from (nI_leI (by omega) (by omega)).mpr (by omega)) h)
      refine lv_iload_n hx hb d_Mo_on_337 rfl (lv_at hl 2 rfl) ?_
      refine lv_iload hx hb d_Mo_on_338 (lv_at hl 3 rfl) ?_
      refine aw_cl ((va_runS (As := [.int ((v_Mo_on3V_L287 zI b 44).1), .int ((v_Mo_on3V_L287 zI b 44).2)]) (rest := []) ⟨hx, hb, hml, hown, hG⟩ (k_Mo_joinedV l ((v_Mo_on3V_L287 zI b 44).1) ((v_Mo_on3V_L287 zI b 44).2)) (aw_wS 2 hG gw_11_43 gw_11_41 gw_0_10 gw_11_42 rfl rfl hd_Mo_joined ⟨Nat.le_of_ble_eq_true rfl, Nat.le_of_ble_eq_true rfl⟩) aw_p0 rfl rfl hl.1 rfl (lv_room (Nat.le_of_ble_eq_true rfl)) d_Mo_on_340 ⟨Nat.le_of_ble_eq_true rfl, Nat.le_of_ble_eq_true rfl⟩).run) (fun y5 ey5 => ?_)
      have ey5 := ey5.symm
      exact W.lret hx hb hr (fun t ht hW => ⟨⟨_, (), rfl, (by subst ey5 ex2 ex1; rfl), ag_Hr ht hP hD hSh⟩, hS.F ht⟩) hS.2.2 d_Mo_on_343
    | succ d ih =>
      intro t H locs L ls ht0 hP hD hSh hS hl
      refine lv_iload hx hb d_Mo_on_287 (lv_at hl 5 rfl) ?_
      refine lv_bipush (v := nI 44) hx hb d_Mo_on_289 (by decide +kernel) ?_
      refine lv_icmp_ge (tgt := 337) hx hb d_Mo_on_291 (by decide) (fun h => absurd h (show ¬ nI 44 ≤ nI t from fun h9 => absurd ((nI_leI (by omega) (by omega)).mp h9) (by omega))) (fun _ => ?_)
      refine lv_iload_n hx hb d_Mo_on_294 rfl (lv_at hl 2 rfl) ?_
      refine lv_istore hx hb d_Mo_on_295 hl (by decide) rfl (fun ls hl => ?_)
      have hl : lv_has ls 8 [(7, .int ((v_Mo_on3V_L287 zI b t).1)), (0, .ref (aw_m ad 0)), (1, .long b), (3, .int ((v_Mo_on3V_L287 zI b t).1)), (4, .int ((v_Mo_on3V_L287 zI b t).2)), (5, .int (nI 0)), (6, .int (nI t))] := hl
      refine lv_iload hx hb d_Mo_on_297 (lv_at hl 4 rfl) ?_
      refine lv_iload_n hx hb d_Mo_on_299 rfl (lv_at hl 3 rfl) ?_
      refine lv_iconst (v := nI 1) hx hb d_Mo_on_300 (by decide +kernel) ?_
      refine aw_ci ((va_runS (As := [.int ((v_Mo_on3V_L287 zI b t).1), .int (nI 1)]) (rest := [.int ((v_Mo_on3V_L287 zI b t).2)]) ⟨hx, hb, hml, hown, hG⟩ (k_Mo_turnV l ((v_Mo_on3V_L287 zI b t).1) (nI 1)) (aw_wS 2 hG gw_11_24 gw_11_22 gw_0_10 gw_11_23 rfl rfl hd_Mo_turn ⟨Nat.le_of_ble_eq_true rfl, Nat.le_of_ble_eq_true rfl⟩) aw_p0 rfl rfl hl.1 rfl (lv_room (Nat.le_of_ble_eq_true rfl)) d_Mo_on_301 ⟨Nat.le_of_ble_eq_true rfl, Nat.le_of_ble_eq_true rfl⟩).run) (fun x6 ex6 => ?_)
      have ex6 := ex6.symm
      refine lv_iload_n hx hb d_Mo_on_304 rfl (lv_at hl 3 rfl) ?_
      refine lv_bipush (v := nI 8) hx hb d_Mo_on_305 (by decide +kernel) ?_
      refine aw_ci ((va_runS (As := [.int ((v_Mo_on3V_L287 zI b t).1), .int (nI 8)]) (rest := [.int x6, .int ((v_Mo_on3V_L287 zI b t).2)]) ⟨hx, hb, hml, hown, hG⟩ (k_Mo_turnV l ((v_Mo_on3V_L287 zI b t).1) (nI 8)) (aw_wS 2 hG gw_11_24 gw_11_22 gw_0_10 gw_11_23 rfl rfl hd_Mo_turn ⟨Nat.le_of_ble_eq_true rfl, Nat.le_of_ble_eq_true rfl⟩) aw_p0 rfl rfl hl.1 rfl (lv_room (Nat.le_of_ble_eq_true rfl)) d_Mo_on_307 ⟨Nat.le_of_ble_eq_true rfl, Nat.le_of_ble_eq_true rfl⟩).run) (fun x7 ex7 => ?_)
      have ex7 := ex7.symm
      refine lv_iand hx hb d_Mo_on_310 ?_
      refine ag_topi (fun x8 ex8 => ?_)
      refine lv_ixor hx hb d_Mo_on_311 ?_
      refine ag_topi (fun x9 ex9 => ?_)
      refine lv_iload_n hx hb d_Mo_on_312 rfl (lv_at hl 3 rfl) ?_
      refine lv_iconst (v := nI 2) hx hb d_Mo_on_313 (by decide +kernel) ?_
      refine aw_ci ((va_runS (As := [.int ((v_Mo_on3V_L287 zI b t).1), .int (nI 2)]) (rest := [.int x9]) ⟨hx, hb, hml, hown, hG⟩ (k_Mo_turnV l ((v_Mo_on3V_L287 zI b t).1) (nI 2)) (aw_wS 2 hG gw_11_24 gw_11_22 gw_0_10 gw_11_23 rfl rfl hd_Mo_turn ⟨Nat.le_of_ble_eq_true rfl, Nat.le_of_ble_eq_true rfl⟩) aw_p0 rfl rfl hl.1 rfl (lv_room (Nat.le_of_ble_eq_true rfl)) d_Mo_on_314 ⟨Nat.le_of_ble_eq_true rfl, Nat.le_of_ble_eq_true rfl⟩).run) (fun x10 ex10 => ?_)
      have ex10 := ex10.symm
      refine lv_ixor hx hb d_Mo_on_317 ?_
      refine ag_topi (fun x11 ex11 => ?_)
      refine lv_aload_n hx hb d_Mo_on_318 rfl (lv_at hl 1 rfl) ?_
      obtain ⟨hsd13, he12⟩ := zr_M0 hSh
      refine va_get (C := R_Mo) (T := T_Mo) (N := 19) (v := .ref (aw_m ad 15)) hx hb hG in_Mo hown hK hP 67 he12 rfl 17 (by decide) (hG _ gw_9_42) (fun _ h => h) rfl d_Mo_on_319 ?_
      clear he12
      refine lv_iload hx hb d_Mo_on_322 (lv_at hl 6 rfl) ?_
      have he14 := zr_M15 hSh
      refine aw_ild hx hb hK hP 82 0 he14 rfl (k := t) (by omega) (by decide) d_Mo_on_324 ?_
      clear he14
      refine ag_topi (fun x15 ex15 => ?_)
      refine lv_ixor hx hb d_Mo_on_325 ?_
      refine ag_topi (fun x16 ex16 => ?_)
      refine lv_istore_n hx hb d_Mo_on_326 rfl hl (by decide) rfl (fun ls hl => ?_)
      have hl : lv_has ls 8 [(3, .int x16), (7, .int ((v_Mo_on3V_L287 zI b t).1)), (0, .ref (aw_m ad 0)), (1, .long b), (4, .int ((v_Mo_on3V_L287 zI b t).2)), (5, .int (nI 0)), (6, .int (nI t))] := hl
      refine lv_iload hx hb d_Mo_on_327 (lv_at hl 1 rfl) ?_
      refine lv_istore hx hb d_Mo_on_329 hl (by decide) rfl (fun ls hl => ?_)
      have hl : lv_has ls 8 [(4, .int ((v_Mo_on3V_L287 zI b t).1)), (3, .int x16), (7, .int ((v_Mo_on3V_L287 zI b t).1)), (0, .ref (aw_m ad 0)), (1, .long b), (5, .int (nI 0)), (6, .int (nI t))] := hl
      refine lv_iinc (k := 6) (v := nI (t + 1)) hx hb d_Mo_on_331 hl rfl (aw_inc t 1 1 (by decide +kernel)) (by decide) rfl (fun ls hl => ?_)
      have hl : lv_has ls 8 [(6, .int (nI (t + 1))), (4, .int ((v_Mo_on3V_L287 zI b t).1)), (3, .int x16), (7, .int ((v_Mo_on3V_L287 zI b t).1)), (0, .ref (aw_m ad 0)), (1, .long b), (5, .int (nI 0))] := hl
      refine lv_goto (tgt := 287) hx hb d_Mo_on_334 (by decide) ?_
      have hl := lv_sub hl (l' := [(0, .ref (aw_m ad 0)), (1, .long b), (3, .int x16), (4, .int ((v_Mo_on3V_L287 zI b t).1)), (5, .int (nI 0)), (6, .int (nI (t + 1)))]) [4, 5, 2, 1, 6, 0] rfl
      have g0 : x16 = (v_Mo_on3V_L287 zI b (t + 1)).1 := by subst ex16 ex15 ex11 ex10 ex9 ex8 ex7 ex6 ex2 ex1; (rw [v_Mo_on3V_L287_s]) <;> rfl
      have g1 : (v_Mo_on3V_L287 zI b t).1 = (v_Mo_on3V_L287 zI b (t + 1)).2 := by subst ex16 ex15 ex11 ex10 ex9 ex8 ex7 ex6 ex2 ex1; (rw [v_Mo_on3V_L287_s]) <;> rfl
      have hl : lv_has ls 8 [(0, .ref (aw_m ad 0)), (1, .long b), (3, .int ((v_Mo_on3V_L287 zI b (t + 1)).1)), (4, .int ((v_Mo_on3V_L287 zI b (t + 1)).2)), (5, .int (nI 0)), (6, .int (nI (t + 1)))] := by rw [← g0, ← g1]; exact hl
      exact ih (t + 1) H locs L ls (by omega) hP hD hSh hS (by first | exact hl | simpa [Nat.add_assoc, Nat.mul_add, Nat.add_comm] using hl)
  have hl := lv_sub hl (l' := [(0, .ref (aw_m ad 0)), (1, .long b), (3, .int x1), (4, .int x2), (5, .int (nI 0)), (6, .int (nI 0))]) [4, 5, 3, 2, 1, 0] rfl
  have g0 : x1 = (v_Mo_on3V_L287 zI b 0).1 := by subst ex2 ex1; (rw [v_Mo_on3V_L287_z]) <;> rfl
  have g1 : x2 = (v_Mo_on3V_L287 zI b 0).2 := by subst ex2 ex1; (rw [v_Mo_on3V_L287_z]) <;> rfl
  have hl : lv_has ls 8 [(0, .ref (aw_m ad 0)), (1, .long b), (3, .int ((v_Mo_on3V_L287 zI b 0).1)), (4, .int ((v_Mo_on3V_L287 zI b 0).2)), (5, .int (nI 0)), (6, .int (nI 0))] := by rw [← g0, ← g1]; exact hl
  exact L287 44 0 _ _ L ls (by omega) hP hD hSh hS (by first | exact hl | simpa using hl)
noncomputable def v_Mo_on4V (zI : Nat → Nat → Int32) (b : Int64) : Int64 := v_Mo_onFourV zI b
abbrev ws_Mo_on4V : List Cond := Cond.code y_Mo_on b_Mo_on 8 (some .long) :: aw_G
abbrev rm_Mo_on4V : Room := { frames := 2, cells := 0, slots := 0, locals := 56 }
set_option maxHeartbeats 4000000 in
set_option maxRecDepth 100000 in
theorem k_Mo_on4V (l : Launch) (D : va_G) (g : Nat → ClassId) (ad : Nat → Nat) (N0 : Nat) (zG : Nat → Nat × Nat) (zO : Nat → Nat) (zX : Nat → Nat → Int64) (zY : Nat → Nat → Int32) (zA : Nat → Nat → Nat → Int32) (zB : Nat → Int32) (zM : Nat → Nat × Nat) (zI : Nat → Nat → Int32) (zL : Nat → Nat → Int64) (zN : Nat) (zF : Int32) (zQ : Int64) (b : Int64) : Met l y_Mo_on ws_Mo_on4V rm_Mo_on4V (va_Pc ([.ref (aw_m ad 0), .long b] : List Value) (ag_B D g N0 (az_Sh g ad zG zO zX zY zA zB zM zI zL (nI 4) zN zF zQ))) (va_Ql (fun r (_ : Unit) => r = v_Mo_on4V zI b) (fun (_ : Unit) t => ag_H D N0 (az_Sh g ad zG zO zX zY zA zB zM zI zL (nI 4) zN zF zQ) t.heap) (aw_Z N0)) 0 0 (aw_Z N0) := by
  refine Met.ofW (cc := b_Mo_on) (maxL := 8) (ret := (some .long)) (by decide) rfl ?_
  intro p e s m args below meth c s₁ B hml hv
  obtain ⟨rfl, ⟨L, hP, hD, hSh⟩, hU⟩ := hv
  have hx := B.exec
  have hb := B.bytes
  have hr := B.returns
  have hG : ∀ w ∈ aw_G, w.before _ s = true := fun w h => atoms_spec (ws := ws_Mo_on4V) B.pre w (List.mem_cons_of_mem _ h)
  have hown : s.vm.findClass "RuleCiphersModel" = some m.cls := findClass_of_methodNamed B.named
  have hlocks := B.notSynchronized
  have hE := hU.1
  have hK := hE.1
  have hN := hE.2.1
  have hS : va_S (aw_Z N0) s.heap s.heap [] := va_S.rf
  have hl := lv_entry ([.ref (aw_m ad 0), .long b] : List Value) (n := 8) (Nat.le_of_ble_eq_true rfl)
  rw [lg_entry_eq]
  generalize (lg_sl ([.ref (aw_m ad 0), .long b] : List Value) ++ List.replicate (8 - (lg_sl ([.ref (aw_m ad 0), .long b] : List Value)).length) Slot.unset).toArray = ls at hl ⊢
  have hl : lv_has ls 8 [(0, .ref (aw_m ad 0)), (1, .long b)] := hl
  refine lv_lload_n hx hb d_Mo_on_0 rfl (lv_at hl 1 rfl) ?_
  refine aw_ci ((va_runS (As := [.long b]) (rest := []) ⟨hx, hb, hml, hown, hG⟩ (k_Mo_upperV l b) (aw_wS 1 hG gw_11_17 gw_11_15 gw_0_10 gw_11_16 rfl rfl hd_Mo_upper ⟨Nat.le_of_ble_eq_true rfl, Nat.le_of_ble_eq_true rfl⟩) aw_p0 rfl rfl hl.1 rfl (lv_room (Nat.le_of_ble_eq_true rfl)) d_Mo_on_1 ⟨Nat.le_of_ble_eq_true rfl, Nat.le_of_ble_eq_true rfl⟩).run) (fun x1 ex1 => ?_)
  have ex1 := ex1.symm
  refine lv_istore_n hx hb d_Mo_on_4 rfl hl (by decide) rfl (fun ls hl => ?_)
  have hl : lv_has ls 8 [(3, .int x1), (0, .ref (aw_m ad 0)), (1, .long b)] := hl
  refine lv_lload_n hx hb d_Mo_on_5 rfl (lv_at hl 2 rfl) ?_
  refine lv_l2i hx hb d_Mo_on_6 rfl ?_
  refine ag_topi (fun x2 ex2 => ?_)
  refine lv_istore hx hb d_Mo_on_7 hl (by decide) rfl (fun ls hl => ?_)
  have hl : lv_has ls 8 [(4, .int x2), (3, .int x1), (0, .ref (aw_m ad 0)), (1, .long b)] := hl
  refine lv_iconst (v := nI 0) hx hb d_Mo_on_9 (by decide +kernel) ?_
  refine lv_istore hx hb d_Mo_on_10 hl (by decide) rfl (fun ls hl => ?_)
  have hl : lv_has ls 8 [(5, .int (nI 0)), (4, .int x2), (3, .int x1), (0, .ref (aw_m ad 0)), (1, .long b)] := hl
  refine lv_aload_n hx hb d_Mo_on_12 rfl (lv_at hl 3 rfl) ?_
  obtain ⟨hsd4, he3⟩ := zr_M0 hSh
  refine va_get (C := R_Mo) (T := T_Mo) (N := 19) (v := .int (nI 4)) hx hb hG in_Mo hown hK hP 67 he3 rfl 15 (by decide) (hG _ gw_9_40) (fun _ h => h) rfl d_Mo_on_13 ?_
  clear he3
  refine lv_tableOut (tgt := 344) hx hb d_Mo_on_16 (by decide +kernel) (by decide) ?_
  refine lv_aload_n hx hb d_Mo_on_344 rfl (lv_at hl 3 rfl) ?_
  refine lv_lload_n hx hb d_Mo_on_345 rfl (lv_at hl 4 rfl) ?_
  obtain ⟨_, he5⟩ := zr_M0 hSh
  refine va_calll (va_runV (As := [.long b]) (rest := []) ⟨hx, hb, hml, hown, hG⟩ (k_Mo_onFourV l D g ad N0 zG zO zX zY zA zB zM zI zL (nI 4) zN zF zQ b) (aw_wV 1 hG gw_12_7 gw_12_5 gw_0_10 gw_12_6 gw_p_19 rfl rfl hd_Mo_onFour ⟨Nat.le_of_ble_eq_true rfl, Nat.le_of_ble_eq_true rfl⟩) (ag_qV (va_recv hK hP rfl he5) hP hD hSh hU hS) rfl rfl hl.1 rfl (lv_room (Nat.le_of_ble_eq_true rfl)) d_Mo_on_346 ⟨Nat.le_of_ble_eq_true rfl, Nat.le_of_ble_eq_true rfl⟩) hS (fun _ _ h => h) (fun _ h => h) ?_
  clear hP hD hSh hS he5
  intro y6 u8 t8 H locs ht _ ey6 hB _ _ hS
  obtain ⟨L, hP, hD, hSh⟩ := hB
  rw [ht] at hP
  clear ht
  have ey6 := ey6.symm
  exact W.lret hx hb hr (fun t ht hW => ⟨⟨_, (), rfl, (by subst ey6 ex2 ex1; rfl), ag_Hr ht hP hD hSh⟩, hS.F ht⟩) hS.2.2 d_Mo_on_349
noncomputable def v_Mo_off0V_L64 (zI : Nat → Nat → Int32) (b : Int64) (t : Nat) : Int32 × Int32 := Nat.rec (motive := fun _ => Int32 × Int32) (v_Mo_swappedV (v_Mo_upperV b), v_Mo_swappedV (Int64.toInt32 b)) (fun t s => (((v_Mo_backV ((s.1) - (zI 15 (2 * (12 - t)))) ((v_Mo_backV ((s.2) - (zI 15 ((2 * (12 - t)) + 1))) (s.1)) ^^^ (s.1))) ^^^ ((v_Mo_backV ((s.2) - (zI 15 ((2 * (12 - t)) + 1))) (s.1)) ^^^ (s.1))), ((v_Mo_backV ((s.2) - (zI 15 ((2 * (12 - t)) + 1))) (s.1)) ^^^ (s.1)))) t
theorem v_Mo_off0V_L64_z (zI : Nat → Nat → Int32) (b : Int64) : v_Mo_off0V_L64 zI b 0 = (v_Mo_swappedV (v_Mo_upperV b), v_Mo_swappedV (Int64.toInt32 b)) := rfl
theorem v_Mo_off0V_L64_s (zI : Nat → Nat → Int32) (b : Int64) (t : Nat) : v_Mo_off0V_L64 zI b (t + 1) = (((v_Mo_backV (((v_Mo_off0V_L64 zI b t).1) - (zI 15 (2 * (12 - t)))) ((v_Mo_backV (((v_Mo_off0V_L64 zI b t).2) - (zI 15 ((2 * (12 - t)) + 1))) ((v_Mo_off0V_L64 zI b t).1)) ^^^ ((v_Mo_off0V_L64 zI b t).1))) ^^^ ((v_Mo_backV (((v_Mo_off0V_L64 zI b t).2) - (zI 15 ((2 * (12 - t)) + 1))) ((v_Mo_off0V_L64 zI b t).1)) ^^^ ((v_Mo_off0V_L64 zI b t).1))), ((v_Mo_backV (((v_Mo_off0V_L64 zI b t).2) - (zI 15 ((2 * (12 - t)) + 1))) ((v_Mo_off0V_L64 zI b t).1)) ^^^ ((v_Mo_off0V_L64 zI b t).1))) := rfl
noncomputable def v_Mo_off0V (zI : Nat → Nat → Int32) (b : Int64) : Int64 := v_Mo_joinedV (v_Mo_swappedV (((v_Mo_off0V_L64 zI b 12).1) - (zI 15 0))) (v_Mo_swappedV (((v_Mo_off0V_L64 zI b 12).2) - (zI 15 1)))
abbrev ws_Mo_off0V : List Cond := Cond.code y_Mo_off b_Mo_off 8 (some .long) :: aw_G
abbrev rm_Mo_off0V : Room := { frames := 3, cells := 0, slots := 0, locals := 78 }
set_option maxHeartbeats 4000000 in
set_option maxRecDepth 100000 in
theorem k_Mo_off0V (l : Launch) (D : va_G) (g : Nat → ClassId) (ad : Nat → Nat) (N0 : Nat) (zG : Nat → Nat × Nat) (zO : Nat → Nat) (zX : Nat → Nat → Int64) (zY : Nat → Nat → Int32) (zA : Nat → Nat → Nat → Int32) (zB : Nat → Int32) (zM : Nat → Nat × Nat) (zI : Nat → Nat → Int32) (zL : Nat → Nat → Int64) (zN : Nat) (zF : Int32) (zQ : Int64) (b : Int64) : Met l y_Mo_off ws_Mo_off0V rm_Mo_off0V (va_Pc ([.ref (aw_m ad 0), .long b] : List Value) (ag_B D g N0 (az_Sh g ad zG zO zX zY zA zB zM zI zL (nI 0) zN zF zQ))) (va_Ql (fun r (_ : Unit) => r = v_Mo_off0V zI b) (fun (_ : Unit) t => ag_H D N0 (az_Sh g ad zG zO zX zY zA zB zM zI zL (nI 0) zN zF zQ) t.heap) (aw_Z N0)) 0 0 (aw_Z N0) := by
  refine Met.ofW (cc := b_Mo_off) (maxL := 8) (ret := (some .long)) (by decide) rfl ?_
  intro p e s m args below meth c s₁ B hml hv
  obtain ⟨rfl, ⟨L, hP, hD, hSh⟩, hU⟩ := hv
  have hx := B.exec
  have hb := B.bytes
  have hr := B.returns
  have hG : ∀ w ∈ aw_G, w.before _ s = true := fun w h => atoms_spec (ws := ws_Mo_off0V) B.pre w (List.mem_cons_of_mem _ h)
  have hown : s.vm.findClass "RuleCiphersModel" = some m.cls := findClass_of_methodNamed B.named
  have hlocks := B.notSynchronized
  have hE := hU.1
  have hK := hE.1
  have hN := hE.2.1
  have hS : va_S (aw_Z N0) s.heap s.heap [] := va_S.rf
  have hl := lv_entry ([.ref (aw_m ad 0), .long b] : List Value) (n := 8) (Nat.le_of_ble_eq_true rfl)
  rw [lg_entry_eq]
  generalize (lg_sl ([.ref (aw_m ad 0), .long b] : List Value) ++ List.replicate (8 - (lg_sl ([.ref (aw_m ad 0), .long b] : List Value)).length) Slot.unset).toArray = ls at hl ⊢
  have hl : lv_has ls 8 [(0, .ref (aw_m ad 0)), (1, .long b)] := hl
  refine lv_lload_n hx hb d_Mo_off_0 rfl (lv_at hl 1 rfl) ?_
  refine aw_ci ((va_runS (As := [.long b]) (rest := []) ⟨hx, hb, hml, hown, hG⟩ (k_Mo_upperV l b) (aw_wS 1 hG gw_11_17 gw_11_15 gw_0_10 gw_11_16 rfl rfl hd_Mo_upper ⟨Nat.le_of_ble_eq_true rfl, Nat.le_of_ble_eq_true rfl⟩) aw_p0 rfl rfl hl.1 rfl (lv_room (Nat.le_of_ble_eq_true rfl)) d_Mo_off_1 ⟨Nat.le_of_ble_eq_true rfl, Nat.le_of_ble_eq_true rfl⟩).run) (fun x1 ex1 => ?_)
  have ex1 := ex1.symm
  refine lv_istore_n hx hb d_Mo_off_4 rfl hl (by decide) rfl (fun ls hl => ?_)
  have hl : lv_has ls 8 [(3, .int x1), (0, .ref (aw_m ad 0)), (1, .long b)] := hl
  refine lv_lload_n hx hb d_Mo_off_5 rfl (lv_at hl 2 rfl) ?_
  refine lv_l2i hx hb d_Mo_off_6 rfl ?_
  refine ag_topi (fun x2 ex2 => ?_)
  refine lv_istore hx hb d_Mo_off_7 hl (by decide) rfl (fun ls hl => ?_)
  have hl : lv_has ls 8 [(4, .int x2), (3, .int x1), (0, .ref (aw_m ad 0)), (1, .long b)] := hl
  refine lv_ldc (v := (-957401312)) hx hb hown (hG _ gw_11_40) d_Mo_off_9 ?_
  refine lv_istore hx hb d_Mo_off_11 hl (by decide) rfl (fun ls hl => ?_)
  have hl : lv_has ls 8 [(5, .int ((-957401312))), (4, .int x2), (3, .int x1), (0, .ref (aw_m ad 0)), (1, .long b)] := hl
  refine lv_aload_n hx hb d_Mo_off_13 rfl (lv_at hl 3 rfl) ?_
  obtain ⟨hsd4, he3⟩ := zr_M0 hSh
  refine va_get (C := R_Mo) (T := T_Mo) (N := 19) (v := .int (nI 0)) hx hb hG in_Mo hown hK hP 67 he3 rfl 15 (by decide) (hG _ gw_9_40) (fun _ h => h) rfl d_Mo_off_14 ?_
  clear he3
  refine lv_tableIn (tgt := 48) (off := 31) hx hb d_Mo_off_17 (by decide +kernel) (by decide +kernel) (by decide +kernel) (by decide) ?_
  refine lv_iload_n hx hb d_Mo_off_48 rfl (lv_at hl 2 rfl) ?_
  refine aw_ci ((va_runS (As := [.int x1]) (rest := []) ⟨hx, hb, hml, hown, hG⟩ (k_Mo_swappedV l x1) (aw_wS 1 hG gw_11_20 gw_11_18 gw_0_10 gw_11_19 rfl rfl hd_Mo_swapped ⟨Nat.le_of_ble_eq_true rfl, Nat.le_of_ble_eq_true rfl⟩) aw_p0 rfl rfl hl.1 rfl (lv_room (Nat.le_of_ble_eq_true rfl)) d_Mo_off_49 ⟨Nat.le_of_ble_eq_true rfl, Nat.le_of_ble_eq_true rfl⟩).run) (fun x5 ex5 => ?_)
  have ex5 := ex5.symm
  refine lv_istore_n hx hb d_Mo_off_52 rfl hl (by decide) rfl (fun ls hl => ?_)
  have hl : lv_has ls 8 [(3, .int x5), (5, .int ((-957401312))), (4, .int x2), (0, .ref (aw_m ad 0)), (1, .long b)] := hl
  refine lv_iload hx hb d_Mo_off_53 (lv_at hl 2 rfl) ?_
  refine aw_ci ((va_runS (As := [.int x2]) (rest := []) ⟨hx, hb, hml, hown, hG⟩ (k_Mo_swappedV l x2) (aw_wS 1 hG gw_11_20 gw_11_18 gw_0_10 gw_11_19 rfl rfl hd_Mo_swapped ⟨Nat.le_of_ble_eq_true rfl, Nat.le_of_ble_eq_true rfl⟩) aw_p0 rfl rfl hl.1 rfl (lv_room (Nat.le_of_ble_eq_true rfl)) d_Mo_off_55 ⟨Nat.le_of_ble_eq_true rfl, Nat.le_of_ble_eq_true rfl⟩).run) (fun x6 ex6 => ?_)
  have ex6 := ex6.symm
  refine lv_istore hx hb d_Mo_off_58 hl (by decide) rfl (fun ls hl => ?_)
  have hl : lv_has ls 8 [(4, .int x6), (3, .int x5), (5, .int ((-957401312))), (0, .ref (aw_m ad 0)), (1, .long b)] := hl
  refine lv_bipush (v := nI 12) hx hb d_Mo_off_60 (by decide +kernel) ?_
  refine lv_istore hx hb d_Mo_off_62 hl (by decide) rfl (fun ls hl => ?_)
  have hl : lv_has ls 8 [(6, .int (nI 12)), (4, .int x6), (3, .int x5), (5, .int ((-957401312))), (0, .ref (aw_m ad 0)), (1, .long b)] := hl
  have L64 : ∀ (d t : Nat) (H : Heap) (locs : List Loc) (L : va_W) (ls : Array Slot), t + d = 12 → va_P D aw_C L H → va_D (aw_Z N0) L → az_Sh g ad zG zO zX zY zA zB zM zI zL (nI 0) zN zF zQ L → va_S (aw_Z N0) s.heap H locs → lv_has ls 8 [(0, .ref (aw_m ad 0)), (1, .long b), (3, .int ((v_Mo_off0V_L64 zI b t).1)), (4, .int ((v_Mo_off0V_L64 zI b t).2)), (5, .int ((-957401312))), (6, .int (nI (12 - t)))] → W p l e (headSpec ws_Mo_off0V rm_Mo_off0V).room s m ([.ref (aw_m ad 0), .long b] : List Value).toArray below meth c H locs 0 0 (MQ below (va_Ql (fun r (_ : Unit) => r = v_Mo_off0V zI b) (fun (_ : Unit) t => ag_H D N0 (az_Sh g ad zG zO zX zY zA zB zM zI zL (nI 0) zN zF zQ) t.heap) (aw_Z N0)) ([.ref (aw_m ad 0), .long b] : List Value).toArray s 0 0 (aw_Z N0)) (F0 m 64 ls []) := by
    clear hl hP hD hSh hS
    intro d
    induction d with
    | zero =>
      intro t H locs L ls ht0 hP hD hSh hS hl
      have ht1 : t = 12 := by omega
      subst ht1
      have hl : lv_has ls 8 [(0, .ref (aw_m ad 0)), (1, .long b), (3, .int ((v_Mo_off0V_L64 zI b 12).1)), (4, .int ((v_Mo_off0V_L64 zI b 12).2)), (5, .int ((-957401312))), (6, .int (nI (12 - 12)))] := hl
      refine lv_iload hx hb d_Mo_off_64 (lv_at hl 5 rfl) ?_
      refine lv_if_le (tgt := 117) hx hb d_Mo_off_66 (by decide) (fun _ => ?_) (fun h => absurd (show nI (12 - 12) ≤ nI 0 from (nI_leI (by omega) (by omega)).mpr (by omega)) h)
      refine lv_iload_n hx hb d_Mo_off_117 rfl (lv_at hl 2 rfl) ?_
      refine lv_aload_n hx hb d_Mo_off_118 rfl (lv_at hl 0 rfl) ?_
      obtain ⟨hsd8, he7⟩ := zr_M0 hSh
      refine va_get (C := R_Mo) (T := T_Mo) (N := 19) (v := .ref (aw_m ad 15)) hx hb hG in_Mo hown hK hP 67 he7 rfl 17 (by decide) (hG _ gw_9_42) (fun _ h => h) rfl d_Mo_off_119 ?_
      clear he7
      refine lv_iconst (v := nI 0) hx hb d_Mo_off_122 (by decide +kernel) ?_
      have he9 := zr_M15 hSh
      refine aw_ild hx hb hK hP 82 0 he9 rfl (k := 0) (by omega) (by decide) d_Mo_off_123 ?_
      clear he9
      refine ag_topi (fun x10 ex10 => ?_)
      refine lv_isub hx hb d_Mo_off_124 ?_
      refine ag_topi (fun x11 ex11 => ?_)
      refine aw_ci ((va_runS (As := [.int x11]) (rest := []) ⟨hx, hb, hml, hown, hG⟩ (k_Mo_swappedV l x11) (aw_wS 1 hG gw_11_20 gw_11_18 gw_0_10 gw_11_19 rfl rfl hd_Mo_swapped ⟨Nat.le_of_ble_eq_true rfl, Nat.le_of_ble_eq_true rfl⟩) aw_p0 rfl rfl hl.1 rfl (lv_room (Nat.le_of_ble_eq_true rfl)) d_Mo_off_125 ⟨Nat.le_of_ble_eq_true rfl, Nat.le_of_ble_eq_true rfl⟩).run) (fun x12 ex12 => ?_)
      have ex12 := ex12.symm
      refine lv_iload hx hb d_Mo_off_128 (lv_at hl 3 rfl) ?_
      refine lv_aload_n hx hb d_Mo_off_130 rfl (lv_at hl 0 rfl) ?_
      obtain ⟨hsd14, he13⟩ := zr_M0 hSh
      refine va_get (C := R_Mo) (T := T_Mo) (N := 19) (v := .ref (aw_m ad 15)) hx hb hG in_Mo hown hK hP 67 he13 rfl 17 (by decide) (hG _ gw_9_42) (fun _ h => h) rfl d_Mo_off_131 ?_
      clear he13
      refine lv_iconst (v := nI 1) hx hb d_Mo_off_134 (by decide +kernel) ?_
      have he15 := zr_M15 hSh
      refine aw_ild hx hb hK hP 82 0 he15 rfl (k := 1) (by omega) (by decide) d_Mo_off_135 ?_
      clear he15
      refine ag_topi (fun x16 ex16 => ?_)
      refine lv_isub hx hb d_Mo_off_136 ?_
      refine ag_topi (fun x17 ex17 => ?_)
      refine aw_ci ((va_runS (As := [.int x17]) (rest := [.int x12]) ⟨hx, hb, hml, hown, hG⟩ (k_Mo_swappedV l x17) (aw_wS 1 hG gw_11_20 gw_11_18 gw_0_10 gw_11_19 rfl rfl hd_Mo_swapped ⟨Nat.le_of_ble_eq_true rfl, Nat.le_of_ble_eq_true rfl⟩) aw_p0 rfl rfl hl.1 rfl (lv_room (Nat.le_of_ble_eq_true rfl)) d_Mo_off_137 ⟨Nat.le_of_ble_eq_true rfl, Nat.le_of_ble_eq_true rfl⟩).run) (fun x18 ex18 => ?_)
      have ex18 := ex18.symm
      refine aw_cl ((va_runS (As := [.int x12, .int x18]) (rest := []) ⟨hx, hb, hml, hown, hG⟩ (k_Mo_joinedV l x12 x18) (aw_wS 2 hG gw_11_43 gw_11_41 gw_0_10 gw_11_42 rfl rfl hd_Mo_joined ⟨Nat.le_of_ble_eq_true rfl, Nat.le_of_ble_eq_true rfl⟩) aw_p0 rfl rfl hl.1 rfl (lv_room (Nat.le_of_ble_eq_true rfl)) d_Mo_off_140 ⟨Nat.le_of_ble_eq_true rfl, Nat.le_of_ble_eq_true rfl⟩).run) (fun y19 ey19 => ?_)
      have ey19 := ey19.symm
      exact W.lret hx hb hr (fun t ht hW => ⟨⟨_, (), rfl, (by subst ey19 ex18 ex17 ex16 ex12 ex11 ex10 ex6 ex5 ex2 ex1; rfl), ag_Hr ht hP hD hSh⟩, hS.F ht⟩) hS.2.2 d_Mo_off_143
    | succ d ih =>
      intro t H locs L ls ht0 hP hD hSh hS hl
      refine lv_iload hx hb d_Mo_off_64 (lv_at hl 5 rfl) ?_
      refine lv_if_le (tgt := 117) hx hb d_Mo_off_66 (by decide) (fun h => absurd h (show ¬ nI (12 - t) ≤ nI 0 from fun h9 => absurd ((nI_leI (by omega) (by omega)).mp h9) (by omega))) (fun _ => ?_)
      refine lv_iload hx hb d_Mo_off_69 (lv_at hl 3 rfl) ?_
      refine lv_aload_n hx hb d_Mo_off_71 rfl (lv_at hl 0 rfl) ?_
      obtain ⟨hsd21, he20⟩ := zr_M0 hSh
      refine va_get (C := R_Mo) (T := T_Mo) (N := 19) (v := .ref (aw_m ad 15)) hx hb hG in_Mo hown hK hP 67 he20 rfl 17 (by decide) (hG _ gw_9_42) (fun _ h => h) rfl d_Mo_off_72 ?_
      clear he20
      refine lv_iconst (v := nI 2) hx hb d_Mo_off_75 (by decide +kernel) ?_
      refine lv_iload hx hb d_Mo_off_76 (lv_at hl 5 rfl) ?_
      refine lv_imul hx hb d_Mo_off_78 ?_
      refine aw_ti (pk_mul 2 (12 - t)) ?_
      refine lv_iconst (v := nI 1) hx hb d_Mo_off_79 (by decide +kernel) ?_
      refine lv_iadd hx hb d_Mo_off_80 ?_
      refine aw_ti (nI_add (2 * (12 - t)) 1) ?_
      have he22 := zr_M15 hSh
      refine aw_ild hx hb hK hP 82 0 he22 rfl (k := ((2 * (12 - t)) + 1)) (by omega) (by decide) d_Mo_off_81 ?_
      clear he22
      refine ag_topi (fun x23 ex23 => ?_)
      refine lv_isub hx hb d_Mo_off_82 ?_
      refine ag_topi (fun x24 ex24 => ?_)
      refine lv_iload_n hx hb d_Mo_off_83 rfl (lv_at hl 2 rfl) ?_
      refine aw_ci ((va_runS (As := [.int x24, .int ((v_Mo_off0V_L64 zI b t).1)]) (rest := []) ⟨hx, hb, hml, hown, hG⟩ (k_Mo_backV l x24 ((v_Mo_off0V_L64 zI b t).1)) (aw_wS 2 hG gw_11_27 gw_11_25 gw_0_10 gw_11_26 rfl rfl hd_Mo_back ⟨Nat.le_of_ble_eq_true rfl, Nat.le_of_ble_eq_true rfl⟩) aw_p0 rfl rfl hl.1 rfl (lv_room (Nat.le_of_ble_eq_true rfl)) d_Mo_off_84 ⟨Nat.le_of_ble_eq_true rfl, Nat.le_of_ble_eq_true rfl⟩).run) (fun x25 ex25 => ?_)
      have ex25 := ex25.symm
      refine lv_iload_n hx hb d_Mo_off_87 rfl (lv_at hl 2 rfl) ?_
      refine lv_ixor hx hb d_Mo_off_88 ?_
      refine ag_topi (fun x26 ex26 => ?_)
      refine lv_istore hx hb d_Mo_off_89 hl (by decide) rfl (fun ls hl => ?_)
      have hl : lv_has ls 8 [(4, .int x26), (0, .ref (aw_m ad 0)), (1, .long b), (3, .int ((v_Mo_off0V_L64 zI b t).1)), (5, .int ((-957401312))), (6, .int (nI (12 - t)))] := hl
      refine lv_iload_n hx hb d_Mo_off_91 rfl (lv_at hl 3 rfl) ?_
      refine lv_aload_n hx hb d_Mo_off_92 rfl (lv_at hl 1 rfl) ?_
      obtain ⟨hsd28, he27⟩ := zr_M0 hSh
      refine va_get (C := R_Mo) (T := T_Mo) (N := 19) (v := .ref (aw_m ad 15)) hx hb hG in_Mo hown hK hP 67 he27 rfl 17 (by decide) (hG _ gw_9_42) (fun _ h => h) rfl d_Mo_off_93 ?_
      clear he27
      refine lv_iconst (v := nI 2) hx hb d_Mo_off_96 (by decide +kernel) ?_
      refine lv_iload hx hb d_Mo_off_97 (lv_at hl 5 rfl) ?_
      refine lv_imul hx hb d_Mo_off_99 ?_
      refine aw_ti (pk_mul 2 (12 - t)) ?_
      have he29 := zr_M15 hSh
      refine aw_ild hx hb hK hP 82 0 he29 rfl (k := (2 * (12 - t))) (by omega) (by decide) d_Mo_off_100 ?_
      clear he29
      refine ag_topi (fun x30 ex30 => ?_)
      refine lv_isub hx hb d_Mo_off_101 ?_
      refine ag_topi (fun x31 ex31 => ?_)
      refine lv_iload hx hb d_Mo_off_102 (lv_at hl 0 rfl) ?_
      refine aw_ci ((va_runS (As := [.int x31, .int x26]) (rest := []) ⟨hx, hb, hml, hown, hG⟩ (k_Mo_backV l x31 x26) (aw_wS 2 hG gw_11_27 gw_11_25 gw_0_10 gw_11_26 rfl rfl hd_Mo_back ⟨Nat.le_of_ble_eq_true rfl, Nat.le_of_ble_eq_true rfl⟩) aw_p0 rfl rfl hl.1 rfl (lv_room (Nat.le_of_ble_eq_true rfl)) d_Mo_off_104 ⟨Nat.le_of_ble_eq_true rfl, Nat.le_of_ble_eq_true rfl⟩).run) (fun x32 ex32 => ?_)
      have ex32 := ex32.symm
      refine lv_iload hx hb d_Mo_off_107 (lv_at hl 0 rfl) ?_
      refine lv_ixor hx hb d_Mo_off_109 ?_
      refine ag_topi (fun x33 ex33 => ?_)
      refine lv_istore_n hx hb d_Mo_off_110 rfl hl (by decide) rfl (fun ls hl => ?_)
      have hl : lv_has ls 8 [(3, .int x33), (4, .int x26), (0, .ref (aw_m ad 0)), (1, .long b), (5, .int ((-957401312))), (6, .int (nI (12 - t)))] := hl
      refine lv_iinc (k := 5) (v := nI (12 - (t + 1))) hx hb d_Mo_off_111 hl rfl (aw_decT 12 t (by omega)) (by decide) rfl (fun ls hl => ?_)
      have hl : lv_has ls 8 [(6, .int (nI (12 - (t + 1)))), (3, .int x33), (4, .int x26), (0, .ref (aw_m ad 0)), (1, .long b), (5, .int ((-957401312)))] := hl
      refine lv_goto (tgt := 64) hx hb d_Mo_off_114 (by decide) ?_
      have hl := lv_sub hl (l' := [(0, .ref (aw_m ad 0)), (1, .long b), (3, .int x33), (4, .int x26), (5, .int ((-957401312))), (6, .int (nI (12 - (t + 1))))]) [3, 4, 1, 2, 5, 0] rfl
      have g0 : x33 = (v_Mo_off0V_L64 zI b (t + 1)).1 := by subst ex33 ex32 ex31 ex30 ex26 ex25 ex24 ex23 ex6 ex5 ex2 ex1; (rw [v_Mo_off0V_L64_s]) <;> rfl
      have g1 : x26 = (v_Mo_off0V_L64 zI b (t + 1)).2 := by subst ex33 ex32 ex31 ex30 ex26 ex25 ex24 ex23 ex6 ex5 ex2 ex1; (rw [v_Mo_off0V_L64_s]) <;> rfl
      have hl : lv_has ls 8 [(0, .ref (aw_m ad 0)), (1, .long b), (3, .int ((v_Mo_off0V_L64 zI b (t + 1)).1)), (4, .int ((v_Mo_off0V_L64 zI b (t + 1)).2)), (5, .int ((-957401312))), (6, .int (nI (12 - (t + 1))))] := by rw [← g0, ← g1]; exact hl
      exact ih (t + 1) H locs L ls (by omega) hP hD hSh hS (by first | exact hl | simpa [Nat.add_assoc, Nat.mul_add, Nat.add_comm] using hl)
  have hl := lv_sub hl (l' := [(0, .ref (aw_m ad 0)), (1, .long b), (3, .int x5), (4, .int x6), (5, .int ((-957401312))), (6, .int (nI 12))]) [4, 5, 2, 1, 3, 0] rfl
  have g0 : x5 = (v_Mo_off0V_L64 zI b 0).1 := by subst ex6 ex5 ex2 ex1; (rw [v_Mo_off0V_L64_z]) <;> rfl
  have g1 : x6 = (v_Mo_off0V_L64 zI b 0).2 := by subst ex6 ex5 ex2 ex1; (rw [v_Mo_off0V_L64_z]) <;> rfl
  have hl : lv_has ls 8 [(0, .ref (aw_m ad 0)), (1, .long b), (3, .int ((v_Mo_off0V_L64 zI b 0).1)), (4, .int ((v_Mo_off0V_L64 zI b 0).2)), (5, .int ((-957401312))), (6, .int (nI 12))] := by rw [← g0, ← g1]; exact hl
  exact L64 12 0 _ _ L ls (by omega) hP hD hSh hS (by first | exact hl | simpa using hl)
noncomputable def v_Mo_off1V_L147 (zI : Nat → Nat → Int32) (b : Int64) (t : Nat) : Int32 × Int32 × Int32 := Nat.rec (motive := fun _ => Int32 × Int32 × Int32) (v_Mo_upperV b, (Int64.toInt32 b), (-957401312)) (fun t s => (((s.1) - ((((jI_shl ((s.2.1) - ((((jI_shl (s.1) (nI 4)) ^^^ (jI_ushr (s.1) (nI 5))) + (s.1)) ^^^ ((s.2.2) + (zI 15 (((jI_ushr (s.2.2) (nI 11)) &&& nI 3).toNatClampNeg))))) (nI 4)) ^^^ (jI_ushr ((s.2.1) - ((((jI_shl (s.1) (nI 4)) ^^^ (jI_ushr (s.1) (nI 5))) + (s.1)) ^^^ ((s.2.2) + (zI 15 (((jI_ushr (s.2.2) (nI 11)) &&& nI 3).toNatClampNeg))))) (nI 5))) + ((s.2.1) - ((((jI_shl (s.1) (nI 4)) ^^^ (jI_ushr (s.1) (nI 5))) + (s.1)) ^^^ ((s.2.2) + (zI 15 (((jI_ushr (s.2.2) (nI 11)) &&& nI 3).toNatClampNeg)))))) ^^^ (((s.2.2) - (-1640531527)) + (zI 15 ((((s.2.2) - (-1640531527)) &&& nI 3).toNatClampNeg))))), ((s.2.1) - ((((jI_shl (s.1) (nI 4)) ^^^ (jI_ushr (s.1) (nI 5))) + (s.1)) ^^^ ((s.2.2) + (zI 15 (((jI_ushr (s.2.2) (nI 11)) &&& nI 3).toNatClampNeg))))), ((s.2.2) - (-1640531527)))) t
theorem v_Mo_off1V_L147_z (zI : Nat → Nat → Int32) (b : Int64) : v_Mo_off1V_L147 zI b 0 = (v_Mo_upperV b, (Int64.toInt32 b), (-957401312)) := rfl
theorem v_Mo_off1V_L147_s (zI : Nat → Nat → Int32) (b : Int64) (t : Nat) : v_Mo_off1V_L147 zI b (t + 1) = ((((v_Mo_off1V_L147 zI b t).1) - ((((jI_shl (((v_Mo_off1V_L147 zI b t).2.1) - ((((jI_shl ((v_Mo_off1V_L147 zI b t).1) (nI 4)) ^^^ (jI_ushr ((v_Mo_off1V_L147 zI b t).1) (nI 5))) + ((v_Mo_off1V_L147 zI b t).1)) ^^^ (((v_Mo_off1V_L147 zI b t).2.2) + (zI 15 (((jI_ushr ((v_Mo_off1V_L147 zI b t).2.2) (nI 11)) &&& nI 3).toNatClampNeg))))) (nI 4)) ^^^ (jI_ushr (((v_Mo_off1V_L147 zI b t).2.1) - ((((jI_shl ((v_Mo_off1V_L147 zI b t).1) (nI 4)) ^^^ (jI_ushr ((v_Mo_off1V_L147 zI b t).1) (nI 5))) + ((v_Mo_off1V_L147 zI b t).1)) ^^^ (((v_Mo_off1V_L147 zI b t).2.2) + (zI 15 (((jI_ushr ((v_Mo_off1V_L147 zI b t).2.2) (nI 11)) &&& nI 3).toNatClampNeg))))) (nI 5))) + (((v_Mo_off1V_L147 zI b t).2.1) - ((((jI_shl ((v_Mo_off1V_L147 zI b t).1) (nI 4)) ^^^ (jI_ushr ((v_Mo_off1V_L147 zI b t).1) (nI 5))) + ((v_Mo_off1V_L147 zI b t).1)) ^^^ (((v_Mo_off1V_L147 zI b t).2.2) + (zI 15 (((jI_ushr ((v_Mo_off1V_L147 zI b t).2.2) (nI 11)) &&& nI 3).toNatClampNeg)))))) ^^^ ((((v_Mo_off1V_L147 zI b t).2.2) - (-1640531527)) + (zI 15 (((((v_Mo_off1V_L147 zI b t).2.2) - (-1640531527)) &&& nI 3).toNatClampNeg))))), (((v_Mo_off1V_L147 zI b t).2.1) - ((((jI_shl ((v_Mo_off1V_L147 zI b t).1) (nI 4)) ^^^ (jI_ushr ((v_Mo_off1V_L147 zI b t).1) (nI 5))) + ((v_Mo_off1V_L147 zI b t).1)) ^^^ (((v_Mo_off1V_L147 zI b t).2.2) + (zI 15 (((jI_ushr ((v_Mo_off1V_L147 zI b t).2.2) (nI 11)) &&& nI 3).toNatClampNeg))))), (((v_Mo_off1V_L147 zI b t).2.2) - (-1640531527))) := rfl
noncomputable def v_Mo_off1V (zI : Nat → Nat → Int32) (b : Int64) : Int64 := v_Mo_joinedV ((v_Mo_off1V_L147 zI b 32).1) ((v_Mo_off1V_L147 zI b 32).2.1)
abbrev ws_Mo_off1V : List Cond := Cond.code y_Mo_off b_Mo_off 8 (some .long) :: aw_G
abbrev rm_Mo_off1V : Room := { frames := 3, cells := 0, slots := 0, locals := 78 }
set_option maxHeartbeats 4000000 in
set_option maxRecDepth 100000 in
theorem k_Mo_off1V (l : Launch) (D : va_G) (g : Nat → ClassId) (ad : Nat → Nat) (N0 : Nat) (zG : Nat → Nat × Nat) (zO : Nat → Nat) (zX : Nat → Nat → Int64) (zY : Nat → Nat → Int32) (zA : Nat → Nat → Nat → Int32) (zB : Nat → Int32) (zM : Nat → Nat × Nat) (zI : Nat → Nat → Int32) (zL : Nat → Nat → Int64) (zN : Nat) (zF : Int32) (zQ : Int64) (b : Int64) : Met l y_Mo_off ws_Mo_off1V rm_Mo_off1V (va_Pc ([.ref (aw_m ad 0), .long b] : List Value) (ag_B D g N0 (az_Sh g ad zG zO zX zY zA zB zM zI zL (nI 1) zN zF zQ))) (va_Ql (fun r (_ : Unit) => r = v_Mo_off1V zI b) (fun (_ : Unit) t => ag_H D N0 (az_Sh g ad zG zO zX zY zA zB zM zI zL (nI 1) zN zF zQ) t.heap) (aw_Z N0)) 0 0 (aw_Z N0) := by
  refine Met.ofW (cc := b_Mo_off) (maxL := 8) (ret := (some .long)) (by decide) rfl ?_
  intro p e s m args below meth c s₁ B hml hv
  obtain ⟨rfl, ⟨L, hP, hD, hSh⟩, hU⟩ := hv
  have hx := B.exec
  have hb := B.bytes
  have hr := B.returns
  have hG : ∀ w ∈ aw_G, w.before _ s = true := fun w h => atoms_spec (ws := ws_Mo_off1V) B.pre w (List.mem_cons_of_mem _ h)
  have hown : s.vm.findClass "RuleCiphersModel" = some m.cls := findClass_of_methodNamed B.named
  have hlocks := B.notSynchronized
  have hE := hU.1
  have hK := hE.1
  have hN := hE.2.1
  have hS : va_S (aw_Z N0) s.heap s.heap [] := va_S.rf
  have hl := lv_entry ([.ref (aw_m ad 0), .long b] : List Value) (n := 8) (Nat.le_of_ble_eq_true rfl)
  rw [lg_entry_eq]
  generalize (lg_sl ([.ref (aw_m ad 0), .long b] : List Value) ++ List.replicate (8 - (lg_sl ([.ref (aw_m ad 0), .long b] : List Value)).length) Slot.unset).toArray = ls at hl ⊢
  have hl : lv_has ls 8 [(0, .ref (aw_m ad 0)), (1, .long b)] := hl
  refine lv_lload_n hx hb d_Mo_off_0 rfl (lv_at hl 1 rfl) ?_
  refine aw_ci ((va_runS (As := [.long b]) (rest := []) ⟨hx, hb, hml, hown, hG⟩ (k_Mo_upperV l b) (aw_wS 1 hG gw_11_17 gw_11_15 gw_0_10 gw_11_16 rfl rfl hd_Mo_upper ⟨Nat.le_of_ble_eq_true rfl, Nat.le_of_ble_eq_true rfl⟩) aw_p0 rfl rfl hl.1 rfl (lv_room (Nat.le_of_ble_eq_true rfl)) d_Mo_off_1 ⟨Nat.le_of_ble_eq_true rfl, Nat.le_of_ble_eq_true rfl⟩).run) (fun x1 ex1 => ?_)
  have ex1 := ex1.symm
  refine lv_istore_n hx hb d_Mo_off_4 rfl hl (by decide) rfl (fun ls hl => ?_)
  have hl : lv_has ls 8 [(3, .int x1), (0, .ref (aw_m ad 0)), (1, .long b)] := hl
  refine lv_lload_n hx hb d_Mo_off_5 rfl (lv_at hl 2 rfl) ?_
  refine lv_l2i hx hb d_Mo_off_6 rfl ?_
  refine ag_topi (fun x2 ex2 => ?_)
  refine lv_istore hx hb d_Mo_off_7 hl (by decide) rfl (fun ls hl => ?_)
  have hl : lv_has ls 8 [(4, .int x2), (3, .int x1), (0, .ref (aw_m ad 0)), (1, .long b)] := hl
  refine lv_ldc (v := (-957401312)) hx hb hown (hG _ gw_11_40) d_Mo_off_9 ?_
  refine lv_istore hx hb d_Mo_off_11 hl (by decide) rfl (fun ls hl => ?_)
  have hl : lv_has ls 8 [(5, .int ((-957401312))), (4, .int x2), (3, .int x1), (0, .ref (aw_m ad 0)), (1, .long b)] := hl
  refine lv_aload_n hx hb d_Mo_off_13 rfl (lv_at hl 3 rfl) ?_
  obtain ⟨hsd4, he3⟩ := zr_M0 hSh
  refine va_get (C := R_Mo) (T := T_Mo) (N := 19) (v := .int (nI 1)) hx hb hG in_Mo hown hK hP 67 he3 rfl 15 (by decide) (hG _ gw_9_40) (fun _ h => h) rfl d_Mo_off_14 ?_
  clear he3
  refine lv_tableIn (tgt := 144) (off := 127) hx hb d_Mo_off_17 (by decide +kernel) (by decide +kernel) (by decide +kernel) (by decide) ?_
  refine lv_iconst (v := nI 0) hx hb d_Mo_off_144 (by decide +kernel) ?_
  refine lv_istore hx hb d_Mo_off_145 hl (by decide) rfl (fun ls hl => ?_)
  have hl : lv_has ls 8 [(6, .int (nI 0)), (5, .int ((-957401312))), (4, .int x2), (3, .int x1), (0, .ref (aw_m ad 0)), (1, .long b)] := hl
  have L147 : ∀ (d t : Nat) (H : Heap) (locs : List Loc) (L : va_W) (ls : Array Slot), t + d = 32 → va_P D aw_C L H → va_D (aw_Z N0) L → az_Sh g ad zG zO zX zY zA zB zM zI zL (nI 1) zN zF zQ L → va_S (aw_Z N0) s.heap H locs → lv_has ls 8 [(0, .ref (aw_m ad 0)), (1, .long b), (3, .int ((v_Mo_off1V_L147 zI b t).1)), (4, .int ((v_Mo_off1V_L147 zI b t).2.1)), (5, .int ((v_Mo_off1V_L147 zI b t).2.2)), (6, .int (nI t))] → W p l e (headSpec ws_Mo_off1V rm_Mo_off1V).room s m ([.ref (aw_m ad 0), .long b] : List Value).toArray below meth c H locs 0 0 (MQ below (va_Ql (fun r (_ : Unit) => r = v_Mo_off1V zI b) (fun (_ : Unit) t => ag_H D N0 (az_Sh g ad zG zO zX zY zA zB zM zI zL (nI 1) zN zF zQ) t.heap) (aw_Z N0)) ([.ref (aw_m ad 0), .long b] : List Value).toArray s 0 0 (aw_Z N0)) (F0 m 147 ls []) := by
    clear hl hP hD hSh hS
    intro d
    induction d with
    | zero =>
      intro t H locs L ls ht0 hP hD hSh hS hl
      have ht1 : t = 32 := by omega
      subst ht1
      refine lv_iload hx hb d_Mo_off_147 (lv_at hl 5 rfl) ?_
      refine lv_bipush (v := nI 32) hx hb d_Mo_off_149 (by decide +kernel) ?_
      refine lv_icmp_ge (tgt := 225) hx hb d_Mo_off_151 (by decide) (fun _ => ?_) (fun h => absurd (show nI 32 ≤ nI 32 from (nI_leI (by omega) (by omega)).mpr (by omega)) h)
      refine lv_iload_n hx hb d_Mo_off_225 rfl (lv_at hl 2 rfl) ?_
      refine lv_iload hx hb d_Mo_off_226 (lv_at hl 3 rfl) ?_
      refine aw_cl ((va_runS (As := [.int ((v_Mo_off1V_L147 zI b 32).1), .int ((v_Mo_off1V_L147 zI b 32).2.1)]) (rest := []) ⟨hx, hb, hml, hown, hG⟩ (k_Mo_joinedV l ((v_Mo_off1V_L147 zI b 32).1) ((v_Mo_off1V_L147 zI b 32).2.1)) (aw_wS 2 hG gw_11_43 gw_11_41 gw_0_10 gw_11_42 rfl rfl hd_Mo_joined ⟨Nat.le_of_ble_eq_true rfl, Nat.le_of_ble_eq_true rfl⟩) aw_p0 rfl rfl hl.1 rfl (lv_room (Nat.le_of_ble_eq_true rfl)) d_Mo_off_228 ⟨Nat.le_of_ble_eq_true rfl, Nat.le_of_ble_eq_true rfl⟩).run) (fun y5 ey5 => ?_)
      have ey5 := ey5.symm
      exact W.lret hx hb hr (fun t ht hW => ⟨⟨_, (), rfl, (by subst ey5 ex2 ex1; rfl), ag_Hr ht hP hD hSh⟩, hS.F ht⟩) hS.2.2 d_Mo_off_231
    | succ d ih =>
      intro t H locs L ls ht0 hP hD hSh hS hl
      refine lv_iload hx hb d_Mo_off_147 (lv_at hl 5 rfl) ?_
      refine lv_bipush (v := nI 32) hx hb d_Mo_off_149 (by decide +kernel) ?_
      refine lv_icmp_ge (tgt := 225) hx hb d_Mo_off_151 (by decide) (fun h => absurd h (show ¬ nI 32 ≤ nI t from fun h9 => absurd ((nI_leI (by omega) (by omega)).mp h9) (by omega))) (fun _ => ?_)
      refine lv_iload hx hb d_Mo_off_154 (lv_at hl 3 rfl) ?_
      refine lv_iload_n hx hb d_Mo_off_156 rfl (lv_at hl 2 rfl) ?_
      refine lv_iconst (v := nI 4) hx hb d_Mo_off_157 (by decide +kernel) ?_
      refine lv_ishl hx hb d_Mo_off_158 ?_
      refine ag_topi (fun x6 ex6 => ?_)
      refine lv_iload_n hx hb d_Mo_off_159 rfl (lv_at hl 2 rfl) ?_
      refine lv_iconst (v := nI 5) hx hb d_Mo_off_160 (by decide +kernel) ?_
      refine lv_iushr hx hb d_Mo_off_161 rfl ?_
      refine ag_topi (fun x7 ex7 => ?_)
      refine lv_ixor hx hb d_Mo_off_162 ?_
      refine ag_topi (fun x8 ex8 => ?_)
      refine lv_iload_n hx hb d_Mo_off_163 rfl (lv_at hl 2 rfl) ?_
      refine lv_iadd hx hb d_Mo_off_164 ?_
      refine ag_topi (fun x9 ex9 => ?_)
      refine lv_iload hx hb d_Mo_off_165 (lv_at hl 4 rfl) ?_
      refine lv_aload_n hx hb d_Mo_off_167 rfl (lv_at hl 0 rfl) ?_
      obtain ⟨hsd11, he10⟩ := zr_M0 hSh
      refine va_get (C := R_Mo) (T := T_Mo) (N := 19) (v := .ref (aw_m ad 15)) hx hb hG in_Mo hown hK hP 67 he10 rfl 17 (by decide) (hG _ gw_9_42) (fun _ h => h) rfl d_Mo_off_168 ?_
      clear he10
      refine lv_iload hx hb d_Mo_off_171 (lv_at hl 4 rfl) ?_
      refine lv_bipush (v := nI 11) hx hb d_Mo_off_173 (by decide +kernel) ?_
      refine lv_iushr hx hb d_Mo_off_175 rfl ?_
      refine ag_topi (fun x12 ex12 => ?_)
      refine lv_iconst (v := nI 3) hx hb d_Mo_off_176 (by decide +kernel) ?_
      refine lv_iand hx hb d_Mo_off_177 ?_
      obtain ⟨k13, hk13, ek13⟩ := pk_andE x12 (m := nI 3) 2 (by decide +kernel)
      have fk13 : (x12 &&& nI 3).toNatClampNeg = k13 := by rw [ek13, nI_clamp (by omega)]
      refine aw_ti ek13 ?_
      have he14 := zr_M15 hSh
      refine aw_ild hx hb hK hP 82 0 he14 rfl (k := k13) (by omega) (by decide) d_Mo_off_178 ?_
      clear he14
      refine ag_topi (fun x15 ex15 => ?_)
      refine lv_iadd hx hb d_Mo_off_179 ?_
      refine ag_topi (fun x16 ex16 => ?_)
      refine lv_ixor hx hb d_Mo_off_180 ?_
      refine ag_topi (fun x17 ex17 => ?_)
      refine lv_isub hx hb d_Mo_off_181 ?_
      refine ag_topi (fun x18 ex18 => ?_)
      refine lv_istore hx hb d_Mo_off_182 hl (by decide) rfl (fun ls hl => ?_)
      have hl : lv_has ls 8 [(4, .int x18), (0, .ref (aw_m ad 0)), (1, .long b), (3, .int ((v_Mo_off1V_L147 zI b t).1)), (5, .int ((v_Mo_off1V_L147 zI b t).2.2)), (6, .int (nI t))] := hl
      refine lv_iload hx hb d_Mo_off_184 (lv_at hl 4 rfl) ?_
      refine lv_ldc (v := (-1640531527)) hx hb hown (hG _ gw_11_11) d_Mo_off_186 ?_
      refine lv_isub hx hb d_Mo_off_188 ?_
      refine ag_topi (fun x19 ex19 => ?_)
      refine lv_istore hx hb d_Mo_off_189 hl (by decide) rfl (fun ls hl => ?_)
      have hl : lv_has ls 8 [(5, .int x19), (4, .int x18), (0, .ref (aw_m ad 0)), (1, .long b), (3, .int ((v_Mo_off1V_L147 zI b t).1)), (6, .int (nI t))] := hl
      refine lv_iload_n hx hb d_Mo_off_191 rfl (lv_at hl 4 rfl) ?_
      refine lv_iload hx hb d_Mo_off_192 (lv_at hl 1 rfl) ?_
      refine lv_iconst (v := nI 4) hx hb d_Mo_off_194 (by decide +kernel) ?_
      refine lv_ishl hx hb d_Mo_off_195 ?_
      refine ag_topi (fun x20 ex20 => ?_)
      refine lv_iload hx hb d_Mo_off_196 (lv_at hl 1 rfl) ?_
      refine lv_iconst (v := nI 5) hx hb d_Mo_off_198 (by decide +kernel) ?_
      refine lv_iushr hx hb d_Mo_off_199 rfl ?_
      refine ag_topi (fun x21 ex21 => ?_)
      refine lv_ixor hx hb d_Mo_off_200 ?_
      refine ag_topi (fun x22 ex22 => ?_)
      refine lv_iload hx hb d_Mo_off_201 (lv_at hl 1 rfl) ?_
      refine lv_iadd hx hb d_Mo_off_203 ?_
      refine ag_topi (fun x23 ex23 => ?_)
      refine lv_iload hx hb d_Mo_off_204 (lv_at hl 0 rfl) ?_
      refine lv_aload_n hx hb d_Mo_off_206 rfl (lv_at hl 2 rfl) ?_
      obtain ⟨hsd25, he24⟩ := zr_M0 hSh
      refine va_get (C := R_Mo) (T := T_Mo) (N := 19) (v := .ref (aw_m ad 15)) hx hb hG in_Mo hown hK hP 67 he24 rfl 17 (by decide) (hG _ gw_9_42) (fun _ h => h) rfl d_Mo_off_207 ?_
      clear he24
      refine lv_iload hx hb d_Mo_off_210 (lv_at hl 0 rfl) ?_
      refine lv_iconst (v := nI 3) hx hb d_Mo_off_212 (by decide +kernel) ?_
      refine lv_iand hx hb d_Mo_off_213 ?_
      obtain ⟨k26, hk26, ek26⟩ := pk_andE x19 (m := nI 3) 2 (by decide +kernel)
      have fk26 : (x19 &&& nI 3).toNatClampNeg = k26 := by rw [ek26, nI_clamp (by omega)]
      refine aw_ti ek26 ?_
      have he27 := zr_M15 hSh
      refine aw_ild hx hb hK hP 82 0 he27 rfl (k := k26) (by omega) (by decide) d_Mo_off_214 ?_
      clear he27
      refine ag_topi (fun x28 ex28 => ?_)
      refine lv_iadd hx hb d_Mo_off_215 ?_
      refine ag_topi (fun x29 ex29 => ?_)
      refine lv_ixor hx hb d_Mo_off_216 ?_
      refine ag_topi (fun x30 ex30 => ?_)
      refine lv_isub hx hb d_Mo_off_217 ?_
      refine ag_topi (fun x31 ex31 => ?_)
      refine lv_istore_n hx hb d_Mo_off_218 rfl hl (by decide) rfl (fun ls hl => ?_)
      have hl : lv_has ls 8 [(3, .int x31), (5, .int x19), (4, .int x18), (0, .ref (aw_m ad 0)), (1, .long b), (6, .int (nI t))] := hl
      refine lv_iinc (k := 5) (v := nI (t + 1)) hx hb d_Mo_off_219 hl rfl (aw_inc t 1 1 (by decide +kernel)) (by decide) rfl (fun ls hl => ?_)
      have hl : lv_has ls 8 [(6, .int (nI (t + 1))), (3, .int x31), (5, .int x19), (4, .int x18), (0, .ref (aw_m ad 0)), (1, .long b)] := hl
      refine lv_goto (tgt := 147) hx hb d_Mo_off_222 (by decide) ?_
      have hl := lv_sub hl (l' := [(0, .ref (aw_m ad 0)), (1, .long b), (3, .int x31), (4, .int x18), (5, .int x19), (6, .int (nI (t + 1)))]) [4, 5, 1, 3, 2, 0] rfl
      have g0 : x31 = (v_Mo_off1V_L147 zI b (t + 1)).1 := by subst ex31 ex30 ex29 ex28 fk26 ex23 ex22 ex21 ex20 ex19 ex18 ex17 ex16 ex15 fk13 ex12 ex9 ex8 ex7 ex6 ex2 ex1; (rw [v_Mo_off1V_L147_s]) <;> rfl
      have g1 : x18 = (v_Mo_off1V_L147 zI b (t + 1)).2.1 := by subst ex31 ex30 ex29 ex28 fk26 ex23 ex22 ex21 ex20 ex19 ex18 ex17 ex16 ex15 fk13 ex12 ex9 ex8 ex7 ex6 ex2 ex1; (rw [v_Mo_off1V_L147_s]) <;> rfl
      have g2 : x19 = (v_Mo_off1V_L147 zI b (t + 1)).2.2 := by subst ex31 ex30 ex29 ex28 fk26 ex23 ex22 ex21 ex20 ex19 ex18 ex17 ex16 ex15 fk13 ex12 ex9 ex8 ex7 ex6 ex2 ex1; (rw [v_Mo_off1V_L147_s]) <;> rfl
      have hl : lv_has ls 8 [(0, .ref (aw_m ad 0)), (1, .long b), (3, .int ((v_Mo_off1V_L147 zI b (t + 1)).1)), (4, .int ((v_Mo_off1V_L147 zI b (t + 1)).2.1)), (5, .int ((v_Mo_off1V_L147 zI b (t + 1)).2.2)), (6, .int (nI (t + 1)))] := by rw [← g0, ← g1, ← g2]; exact hl
      exact ih (t + 1) H locs L ls (by omega) hP hD hSh hS (by first | exact hl | simpa [Nat.add_assoc, Nat.mul_add, Nat.add_comm] using hl)
  have hl := lv_sub hl (l' := [(0, .ref (aw_m ad 0)), (1, .long b), (3, .int x1), (4, .int x2), (5, .int ((-957401312))), (6, .int (nI 0))]) [4, 5, 3, 2, 1, 0] rfl
  have g0 : x1 = (v_Mo_off1V_L147 zI b 0).1 := by subst ex2 ex1; (rw [v_Mo_off1V_L147_z]) <;> rfl
  have g1 : x2 = (v_Mo_off1V_L147 zI b 0).2.1 := by subst ex2 ex1; (rw [v_Mo_off1V_L147_z]) <;> rfl
  have g2 : (-957401312) = (v_Mo_off1V_L147 zI b 0).2.2 := by subst ex2 ex1; (rw [v_Mo_off1V_L147_z]) <;> rfl
  have hl : lv_has ls 8 [(0, .ref (aw_m ad 0)), (1, .long b), (3, .int ((v_Mo_off1V_L147 zI b 0).1)), (4, .int ((v_Mo_off1V_L147 zI b 0).2.1)), (5, .int ((v_Mo_off1V_L147 zI b 0).2.2)), (6, .int (nI 0))] := by rw [← g0, ← g1]; exact hl
  exact L147 32 0 _ _ L ls (by omega) hP hD hSh hS (by first | exact hl | simpa using hl)
noncomputable def v_Mo_off2V_L236 (zI : Nat → Nat → Int32) (b : Int64) (t : Nat) : Int32 × Int32 := Nat.rec (motive := fun _ => Int32 × Int32) (v_Mo_upperV b, (Int64.toInt32 b)) (fun t s => (v_Mo_turnV (((s.1) ^^^ (zI 15 (26 - t))) - (v_Mo_backV ((s.2) ^^^ (s.1)) (nI 3))) (nI 8), v_Mo_backV ((s.2) ^^^ (s.1)) (nI 3))) t
theorem v_Mo_off2V_L236_z (zI : Nat → Nat → Int32) (b : Int64) : v_Mo_off2V_L236 zI b 0 = (v_Mo_upperV b, (Int64.toInt32 b)) := rfl
theorem v_Mo_off2V_L236_s (zI : Nat → Nat → Int32) (b : Int64) (t : Nat) : v_Mo_off2V_L236 zI b (t + 1) = (v_Mo_turnV ((((v_Mo_off2V_L236 zI b t).1) ^^^ (zI 15 (26 - t))) - (v_Mo_backV (((v_Mo_off2V_L236 zI b t).2) ^^^ ((v_Mo_off2V_L236 zI b t).1)) (nI 3))) (nI 8), v_Mo_backV (((v_Mo_off2V_L236 zI b t).2) ^^^ ((v_Mo_off2V_L236 zI b t).1)) (nI 3)) := rfl
noncomputable def v_Mo_off2V (zI : Nat → Nat → Int32) (b : Int64) : Int64 := v_Mo_joinedV ((v_Mo_off2V_L236 zI b 27).1) ((v_Mo_off2V_L236 zI b 27).2)
abbrev ws_Mo_off2V : List Cond := Cond.code y_Mo_off b_Mo_off 8 (some .long) :: aw_G
abbrev rm_Mo_off2V : Room := { frames := 3, cells := 0, slots := 0, locals := 78 }
set_option maxHeartbeats 4000000 in
set_option maxRecDepth 100000 in
theorem k_Mo_off2V (l : Launch) (D : va_G) (g : Nat → ClassId) (ad : Nat → Nat) (N0 : Nat) (zG : Nat → Nat × Nat) (zO : Nat → Nat) (zX : Nat → Nat → Int64) (zY : Nat → Nat → Int32) (zA : Nat → Nat → Nat → Int32) (zB : Nat → Int32) (zM : Nat → Nat × Nat) (zI : Nat → Nat → Int32) (zL : Nat → Nat → Int64) (zN : Nat) (zF : Int32) (zQ : Int64) (b : Int64) : Met l y_Mo_off ws_Mo_off2V rm_Mo_off2V (va_Pc ([.ref (aw_m ad 0), .long b] : List Value) (ag_B D g N0 (az_Sh g ad zG zO zX zY zA zB zM zI zL (nI 2) zN zF zQ))) (va_Ql (fun r (_ : Unit) => r = v_Mo_off2V zI b) (fun (_ : Unit) t => ag_H D N0 (az_Sh g ad zG zO zX zY zA zB zM zI zL (nI 2) zN zF zQ) t.heap) (aw_Z N0)) 0 0 (aw_Z N0) := by
  refine Met.ofW (cc := b_Mo_off) (maxL := 8) (ret := (some .long)) (by decide) rfl ?_
  intro p e s m args below meth c s₁ B hml hv
  obtain ⟨rfl, ⟨L, hP, hD, hSh⟩, hU⟩ := hv
  have hx := B.exec
  have hb := B.bytes
  have hr := B.returns
  have hG : ∀ w ∈ aw_G, w.before _ s = true := fun w h => atoms_spec (ws := ws_Mo_off2V) B.pre w (List.mem_cons_of_mem _ h)
  have hown : s.vm.findClass "RuleCiphersModel" = some m.cls := findClass_of_methodNamed B.named
  have hlocks := B.notSynchronized
  have hE := hU.1
  have hK := hE.1
  have hN := hE.2.1
  have hS : va_S (aw_Z N0) s.heap s.heap [] := va_S.rf
  have hl := lv_entry ([.ref (aw_m ad 0), .long b] : List Value) (n := 8) (Nat.le_of_ble_eq_true rfl)
  rw [lg_entry_eq]
  generalize (lg_sl ([.ref (aw_m ad 0), .long b] : List Value) ++ List.replicate (8 - (lg_sl ([.ref (aw_m ad 0), .long b] : List Value)).length) Slot.unset).toArray = ls at hl ⊢
  have hl : lv_has ls 8 [(0, .ref (aw_m ad 0)), (1, .long b)] := hl
  refine lv_lload_n hx hb d_Mo_off_0 rfl (lv_at hl 1 rfl) ?_
  refine aw_ci ((va_runS (As := [.long b]) (rest := []) ⟨hx, hb, hml, hown, hG⟩ (k_Mo_upperV l b) (aw_wS 1 hG gw_11_17 gw_11_15 gw_0_10 gw_11_16 rfl rfl hd_Mo_upper ⟨Nat.le_of_ble_eq_true rfl, Nat.le_of_ble_eq_true rfl⟩) aw_p0 rfl rfl hl.1 rfl (lv_room (Nat.le_of_ble_eq_true rfl)) d_Mo_off_1 ⟨Nat.le_of_ble_eq_true rfl, Nat.le_of_ble_eq_true rfl⟩).run) (fun x1 ex1 => ?_)
  have ex1 := ex1.symm
  refine lv_istore_n hx hb d_Mo_off_4 rfl hl (by decide) rfl (fun ls hl => ?_)
  have hl : lv_has ls 8 [(3, .int x1), (0, .ref (aw_m ad 0)), (1, .long b)] := hl
  refine lv_lload_n hx hb d_Mo_off_5 rfl (lv_at hl 2 rfl) ?_
  refine lv_l2i hx hb d_Mo_off_6 rfl ?_
  refine ag_topi (fun x2 ex2 => ?_)
  refine lv_istore hx hb d_Mo_off_7 hl (by decide) rfl (fun ls hl => ?_)
  have hl : lv_has ls 8 [(4, .int x2), (3, .int x1), (0, .ref (aw_m ad 0)), (1, .long b)] := hl
  refine lv_ldc (v := (-957401312)) hx hb hown (hG _ gw_11_40) d_Mo_off_9 ?_
  refine lv_istore hx hb d_Mo_off_11 hl (by decide) rfl (fun ls hl => ?_)
  have hl : lv_has ls 8 [(5, .int ((-957401312))), (4, .int x2), (3, .int x1), (0, .ref (aw_m ad 0)), (1, .long b)] := hl
  refine lv_aload_n hx hb d_Mo_off_13 rfl (lv_at hl 3 rfl) ?_
  obtain ⟨hsd4, he3⟩ := zr_M0 hSh
  refine va_get (C := R_Mo) (T := T_Mo) (N := 19) (v := .int (nI 2)) hx hb hG in_Mo hown hK hP 67 he3 rfl 15 (by decide) (hG _ gw_9_40) (fun _ h => h) rfl d_Mo_off_14 ?_
  clear he3
  refine lv_tableIn (tgt := 232) (off := 215) hx hb d_Mo_off_17 (by decide +kernel) (by decide +kernel) (by decide +kernel) (by decide) ?_
  refine lv_bipush (v := nI 26) hx hb d_Mo_off_232 (by decide +kernel) ?_
  refine lv_istore hx hb d_Mo_off_234 hl (by decide) rfl (fun ls hl => ?_)
  have hl : lv_has ls 8 [(6, .int (nI 26)), (5, .int ((-957401312))), (4, .int x2), (3, .int x1), (0, .ref (aw_m ad 0)), (1, .long b)] := hl
  have L236 : ∀ (d t : Nat) (H : Heap) (locs : List Loc) (L : va_W) (ls : Array Slot), t + d = 27 → va_P D aw_C L H → va_D (aw_Z N0) L → az_Sh g ad zG zO zX zY zA zB zM zI zL (nI 2) zN zF zQ L → va_S (aw_Z N0) s.heap H locs → lv_has ls 8 [(0, .ref (aw_m ad 0)), (1, .long b), (3, .int ((v_Mo_off2V_L236 zI b t).1)), (4, .int ((v_Mo_off2V_L236 zI b t).2)), (5, .int ((-957401312))), (6, .int (aw_dn (27 - t)))] → W p l e (headSpec ws_Mo_off2V rm_Mo_off2V).room s m ([.ref (aw_m ad 0), .long b] : List Value).toArray below meth c H locs 0 0 (MQ below (va_Ql (fun r (_ : Unit) => r = v_Mo_off2V zI b) (fun (_ : Unit) t => ag_H D N0 (az_Sh g ad zG zO zX zY zA zB zM zI zL (nI 2) zN zF zQ) t.heap) (aw_Z N0)) ([.ref (aw_m ad 0), .long b] : List Value).toArray s 0 0 (aw_Z N0)) (F0 m 236 ls []) := by
    clear hl hP hD hSh hS
    intro d
    induction d with
    | zero =>
      intro t H locs L ls ht0 hP hD hSh hS hl
      have ht1 : t = 27 := by omega
      subst ht1
      have hl : lv_has ls 8 [(0, .ref (aw_m ad 0)), (1, .long b), (3, .int ((v_Mo_off2V_L236 zI b 27).1)), (4, .int ((v_Mo_off2V_L236 zI b 27).2)), (5, .int ((-957401312))), (6, .int (aw_dn (27 - 27)))] := hl
      refine lv_iload hx hb d_Mo_off_236 (lv_at hl 5 rfl) ?_
      refine lv_if_lt (tgt := 275) hx hb d_Mo_off_238 (by decide) (fun _ => ?_) (fun h => absurd (by decide +kernel) h)
      refine lv_iload_n hx hb d_Mo_off_275 rfl (lv_at hl 2 rfl) ?_
      refine lv_iload hx hb d_Mo_off_276 (lv_at hl 3 rfl) ?_
      refine aw_cl ((va_runS (As := [.int ((v_Mo_off2V_L236 zI b 27).1), .int ((v_Mo_off2V_L236 zI b 27).2)]) (rest := []) ⟨hx, hb, hml, hown, hG⟩ (k_Mo_joinedV l ((v_Mo_off2V_L236 zI b 27).1) ((v_Mo_off2V_L236 zI b 27).2)) (aw_wS 2 hG gw_11_43 gw_11_41 gw_0_10 gw_11_42 rfl rfl hd_Mo_joined ⟨Nat.le_of_ble_eq_true rfl, Nat.le_of_ble_eq_true rfl⟩) aw_p0 rfl rfl hl.1 rfl (lv_room (Nat.le_of_ble_eq_true rfl)) d_Mo_off_278 ⟨Nat.le_of_ble_eq_true rfl, Nat.le_of_ble_eq_true rfl⟩).run) (fun y5 ey5 => ?_)
      have ey5 := ey5.symm
      exact W.lret hx hb hr (fun t ht hW => ⟨⟨_, (), rfl, (by subst ey5 ex2 ex1; rfl), ag_Hr ht hP hD hSh⟩, hS.F ht⟩) hS.2.2 d_Mo_off_281
    | succ d ih =>
      intro t H locs L ls ht0 hP hD hSh hS hl
      rw [aw_dnT 27 t (by omega)] at hl
      have hl : lv_has ls 8 [(0, .ref (aw_m ad 0)), (1, .long b), (3, .int ((v_Mo_off2V_L236 zI b t).1)), (4, .int ((v_Mo_off2V_L236 zI b t).2)), (5, .int ((-957401312))), (6, .int (nI (26 - t)))] := hl
      refine lv_iload hx hb d_Mo_off_236 (lv_at hl 5 rfl) ?_
      refine lv_if_lt (tgt := 275) hx hb d_Mo_off_238 (by decide) (fun h => absurd h (show ¬ nI (26 - t) < nI 0 from fun h9 => absurd ((nI_ltI (by omega) (by omega)).mp h9) (by omega))) (fun _ => ?_)
      refine lv_iload hx hb d_Mo_off_241 (lv_at hl 3 rfl) ?_
      refine lv_iload_n hx hb d_Mo_off_243 rfl (lv_at hl 2 rfl) ?_
      refine lv_ixor hx hb d_Mo_off_244 ?_
      refine ag_topi (fun x6 ex6 => ?_)
      refine lv_iconst (v := nI 3) hx hb d_Mo_off_245 (by decide +kernel) ?_
      refine aw_ci ((va_runS (As := [.int x6, .int (nI 3)]) (rest := []) ⟨hx, hb, hml, hown, hG⟩ (k_Mo_backV l x6 (nI 3)) (aw_wS 2 hG gw_11_27 gw_11_25 gw_0_10 gw_11_26 rfl rfl hd_Mo_back ⟨Nat.le_of_ble_eq_true rfl, Nat.le_of_ble_eq_true rfl⟩) aw_p0 rfl rfl hl.1 rfl (lv_room (Nat.le_of_ble_eq_true rfl)) d_Mo_off_246 ⟨Nat.le_of_ble_eq_true rfl, Nat.le_of_ble_eq_true rfl⟩).run) (fun x7 ex7 => ?_)
      have ex7 := ex7.symm
      refine lv_istore hx hb d_Mo_off_249 hl (by decide) rfl (fun ls hl => ?_)
      have hl : lv_has ls 8 [(4, .int x7), (0, .ref (aw_m ad 0)), (1, .long b), (3, .int ((v_Mo_off2V_L236 zI b t).1)), (5, .int ((-957401312))), (6, .int (nI (26 - t)))] := hl
      refine lv_iload_n hx hb d_Mo_off_251 rfl (lv_at hl 3 rfl) ?_
      refine lv_aload_n hx hb d_Mo_off_252 rfl (lv_at hl 1 rfl) ?_
      obtain ⟨hsd9, he8⟩ := zr_M0 hSh
      refine va_get (C := R_Mo) (T := T_Mo) (N := 19) (v := .ref (aw_m ad 15)) hx hb hG in_Mo hown hK hP 67 he8 rfl 17 (by decide) (hG _ gw_9_42) (fun _ h => h) rfl d_Mo_off_253 ?_
      clear he8
      refine lv_iload hx hb d_Mo_off_256 (lv_at hl 5 rfl) ?_
      have he10 := zr_M15 hSh
      refine aw_ild hx hb hK hP 82 0 he10 rfl (k := (26 - t)) (by omega) (by decide) d_Mo_off_258 ?_
      clear he10
      refine ag_topi (fun x11 ex11 => ?_)
      refine lv_ixor hx hb d_Mo_off_259 ?_
      refine ag_topi (fun x12 ex12 => ?_)
      refine lv_iload hx hb d_Mo_off_260 (lv_at hl 0 rfl) ?_
      refine lv_isub hx hb d_Mo_off_262 ?_
      refine ag_topi (fun x13 ex13 => ?_)
      refine lv_bipush (v := nI 8) hx hb d_Mo_off_263 (by decide +kernel) ?_
      refine aw_ci ((va_runS (As := [.int x13, .int (nI 8)]) (rest := []) ⟨hx, hb, hml, hown, hG⟩ (k_Mo_turnV l x13 (nI 8)) (aw_wS 2 hG gw_11_24 gw_11_22 gw_0_10 gw_11_23 rfl rfl hd_Mo_turn ⟨Nat.le_of_ble_eq_true rfl, Nat.le_of_ble_eq_true rfl⟩) aw_p0 rfl rfl hl.1 rfl (lv_room (Nat.le_of_ble_eq_true rfl)) d_Mo_off_265 ⟨Nat.le_of_ble_eq_true rfl, Nat.le_of_ble_eq_true rfl⟩).run) (fun x14 ex14 => ?_)
      have ex14 := ex14.symm
      refine lv_istore_n hx hb d_Mo_off_268 rfl hl (by decide) rfl (fun ls hl => ?_)
      have hl : lv_has ls 8 [(3, .int x14), (4, .int x7), (0, .ref (aw_m ad 0)), (1, .long b), (5, .int ((-957401312))), (6, .int (nI (26 - t)))] := hl
      refine lv_iinc (k := 5) (v := aw_dn (27 - (t + 1))) hx hb d_Mo_off_269 hl rfl (aw_dnS 27 t (by omega)) (by decide) rfl (fun ls hl => ?_)
      have hl : lv_has ls 8 [(6, .int (aw_dn (27 - (t + 1)))), (3, .int x14), (4, .int x7), (0, .ref (aw_m ad 0)), (1, .long b), (5, .int ((-957401312)))] := hl
      refine lv_goto (tgt := 236) hx hb d_Mo_off_272 (by decide) ?_
      have hl := lv_sub hl (l' := [(0, .ref (aw_m ad 0)), (1, .long b), (3, .int x14), (4, .int x7), (5, .int ((-957401312))), (6, .int (aw_dn (27 - (t + 1))))]) [3, 4, 1, 2, 5, 0] rfl
      have g0 : x14 = (v_Mo_off2V_L236 zI b (t + 1)).1 := by subst ex14 ex13 ex12 ex11 ex7 ex6 ex2 ex1; (rw [v_Mo_off2V_L236_s]) <;> rfl
      have g1 : x7 = (v_Mo_off2V_L236 zI b (t + 1)).2 := by subst ex14 ex13 ex12 ex11 ex7 ex6 ex2 ex1; (rw [v_Mo_off2V_L236_s]) <;> rfl
      have hl : lv_has ls 8 [(0, .ref (aw_m ad 0)), (1, .long b), (3, .int ((v_Mo_off2V_L236 zI b (t + 1)).1)), (4, .int ((v_Mo_off2V_L236 zI b (t + 1)).2)), (5, .int ((-957401312))), (6, .int (aw_dn (27 - (t + 1))))] := by rw [← g0, ← g1]; exact hl
      exact ih (t + 1) H locs L ls (by omega) hP hD hSh hS (by first | exact hl | simpa [Nat.add_assoc, Nat.mul_add, Nat.add_comm] using hl)
  have hl := lv_sub hl (l' := [(0, .ref (aw_m ad 0)), (1, .long b), (3, .int x1), (4, .int x2), (5, .int ((-957401312))), (6, .int (nI 26))]) [4, 5, 3, 2, 1, 0] rfl
  have g0 : x1 = (v_Mo_off2V_L236 zI b 0).1 := by subst ex2 ex1; (rw [v_Mo_off2V_L236_z]) <;> rfl
  have g1 : x2 = (v_Mo_off2V_L236 zI b 0).2 := by subst ex2 ex1; (rw [v_Mo_off2V_L236_z]) <;> rfl
  have hl : lv_has ls 8 [(0, .ref (aw_m ad 0)), (1, .long b), (3, .int ((v_Mo_off2V_L236 zI b 0).1)), (4, .int ((v_Mo_off2V_L236 zI b 0).2)), (5, .int ((-957401312))), (6, .int (nI 26))] := by rw [← g0, ← g1]; exact hl
  exact L236 27 0 _ _ L ls (by omega) hP hD hSh hS (by first | exact hl | simpa using hl)
noncomputable def v_Mo_off3V_L286 (zI : Nat → Nat → Int32) (b : Int64) (t : Nat) : Int32 × Int32 := Nat.rec (motive := fun _ => Int32 × Int32) (v_Mo_upperV b, (Int64.toInt32 b)) (fun t s => (s.2, ((((s.1) ^^^ ((v_Mo_turnV (s.2) (nI 1)) &&& (v_Mo_turnV (s.2) (nI 8)))) ^^^ (v_Mo_turnV (s.2) (nI 2))) ^^^ (zI 15 (43 - t))))) t
theorem v_Mo_off3V_L286_z (zI : Nat → Nat → Int32) (b : Int64) : v_Mo_off3V_L286 zI b 0 = (v_Mo_upperV b, (Int64.toInt32 b)) := rfl
theorem v_Mo_off3V_L286_s (zI : Nat → Nat → Int32) (b : Int64) (t : Nat) : v_Mo_off3V_L286 zI b (t + 1) = ((v_Mo_off3V_L286 zI b t).2, (((((v_Mo_off3V_L286 zI b t).1) ^^^ ((v_Mo_turnV ((v_Mo_off3V_L286 zI b t).2) (nI 1)) &&& (v_Mo_turnV ((v_Mo_off3V_L286 zI b t).2) (nI 8)))) ^^^ (v_Mo_turnV ((v_Mo_off3V_L286 zI b t).2) (nI 2))) ^^^ (zI 15 (43 - t)))) := rfl
noncomputable def v_Mo_off3V (zI : Nat → Nat → Int32) (b : Int64) : Int64 := v_Mo_joinedV ((v_Mo_off3V_L286 zI b 44).1) ((v_Mo_off3V_L286 zI b 44).2)
abbrev ws_Mo_off3V : List Cond := Cond.code y_Mo_off b_Mo_off 8 (some .long) :: aw_G
abbrev rm_Mo_off3V : Room := { frames := 3, cells := 0, slots := 0, locals := 78 }
set_option maxHeartbeats 4000000 in
set_option maxRecDepth 100000 in
theorem k_Mo_off3V (l : Launch) (D : va_G) (g : Nat → ClassId) (ad : Nat → Nat) (N0 : Nat) (zG : Nat → Nat × Nat) (zO : Nat → Nat) (zX : Nat → Nat → Int64) (zY : Nat → Nat → Int32) (zA : Nat → Nat → Nat → Int32) (zB : Nat → Int32) (zM : Nat → Nat × Nat) (zI : Nat → Nat → Int32) (zL : Nat → Nat → Int64) (zN : Nat) (zF : Int32) (zQ : Int64) (b : Int64) : Met l y_Mo_off ws_Mo_off3V rm_Mo_off3V (va_Pc ([.ref (aw_m ad 0), .long b] : List Value) (ag_B D g N0 (az_Sh g ad zG zO zX zY zA zB zM zI zL (nI 3) zN zF zQ))) (va_Ql (fun r (_ : Unit) => r = v_Mo_off3V zI b) (fun (_ : Unit) t => ag_H D N0 (az_Sh g ad zG zO zX zY zA zB zM zI zL (nI 3) zN zF zQ) t.heap) (aw_Z N0)) 0 0 (aw_Z N0) := by
  refine Met.ofW (cc := b_Mo_off) (maxL := 8) (ret := (some .long)) (by decide) rfl ?_
  intro p e s m args below meth c s₁ B hml hv
  obtain ⟨rfl, ⟨L, hP, hD, hSh⟩, hU⟩ := hv
  have hx := B.exec
  have hb := B.bytes
  have hr := B.returns
  have hG : ∀ w ∈ aw_G, w.before _ s = true := fun w h => atoms_spec (ws := ws_Mo_off3V) B.pre w (List.mem_cons_of_mem _ h)
  have hown : s.vm.findClass "RuleCiphersModel" = some m.cls := findClass_of_methodNamed B.named
  have hlocks := B.notSynchronized
  have hE := hU.1
  have hK := hE.1
  have hN := hE.2.1
  have hS : va_S (aw_Z N0) s.heap s.heap [] := va_S.rf
  have hl := lv_entry ([.ref (aw_m ad 0), .long b] : List Value) (n := 8) (Nat.le_of_ble_eq_true rfl)
  rw [lg_entry_eq]
  generalize (lg_sl ([.ref (aw_m ad 0), .long b] : List Value) ++ List.replicate (8 - (lg_sl ([.ref (aw_m ad 0), .long b] : List Value)).length) Slot.unset).toArray = ls at hl ⊢
  have hl : lv_has ls 8 [(0, .ref (aw_m ad 0)), (1, .long b)] := hl
  refine lv_lload_n hx hb d_Mo_off_0 rfl (lv_at hl 1 rfl) ?_
  refine aw_ci ((va_runS (As := [.long b]) (rest := []) ⟨hx, hb, hml, hown, hG⟩ (k_Mo_upperV l b) (aw_wS 1 hG gw_11_17 gw_11_15 gw_0_10 gw_11_16 rfl rfl hd_Mo_upper ⟨Nat.le_of_ble_eq_true rfl, Nat.le_of_ble_eq_true rfl⟩) aw_p0 rfl rfl hl.1 rfl (lv_room (Nat.le_of_ble_eq_true rfl)) d_Mo_off_1 ⟨Nat.le_of_ble_eq_true rfl, Nat.le_of_ble_eq_true rfl⟩).run) (fun x1 ex1 => ?_)
  have ex1 := ex1.symm
  refine lv_istore_n hx hb d_Mo_off_4 rfl hl (by decide) rfl (fun ls hl => ?_)
  have hl : lv_has ls 8 [(3, .int x1), (0, .ref (aw_m ad 0)), (1, .long b)] := hl
  refine lv_lload_n hx hb d_Mo_off_5 rfl (lv_at hl 2 rfl) ?_
  refine lv_l2i hx hb d_Mo_off_6 rfl ?_
  refine ag_topi (fun x2 ex2 => ?_)
  refine lv_istore hx hb d_Mo_off_7 hl (by decide) rfl (fun ls hl => ?_)
  have hl : lv_has ls 8 [(4, .int x2), (3, .int x1), (0, .ref (aw_m ad 0)), (1, .long b)] := hl
  refine lv_ldc (v := (-957401312)) hx hb hown (hG _ gw_11_40) d_Mo_off_9 ?_
  refine lv_istore hx hb d_Mo_off_11 hl (by decide) rfl (fun ls hl => ?_)
  have hl : lv_has ls 8 [(5, .int ((-957401312))), (4, .int x2), (3, .int x1), (0, .ref (aw_m ad 0)), (1, .long b)] := hl
  refine lv_aload_n hx hb d_Mo_off_13 rfl (lv_at hl 3 rfl) ?_
  obtain ⟨hsd4, he3⟩ := zr_M0 hSh
  refine va_get (C := R_Mo) (T := T_Mo) (N := 19) (v := .int (nI 3)) hx hb hG in_Mo hown hK hP 67 he3 rfl 15 (by decide) (hG _ gw_9_40) (fun _ h => h) rfl d_Mo_off_14 ?_
  clear he3
  refine lv_tableIn (tgt := 282) (off := 265) hx hb d_Mo_off_17 (by decide +kernel) (by decide +kernel) (by decide +kernel) (by decide) ?_
  refine lv_bipush (v := nI 43) hx hb d_Mo_off_282 (by decide +kernel) ?_
  refine lv_istore hx hb d_Mo_off_284 hl (by decide) rfl (fun ls hl => ?_)
  have hl : lv_has ls 8 [(6, .int (nI 43)), (5, .int ((-957401312))), (4, .int x2), (3, .int x1), (0, .ref (aw_m ad 0)), (1, .long b)] := hl
  have L286 : ∀ (d t : Nat) (H : Heap) (locs : List Loc) (L : va_W) (ls : Array Slot), t + d = 44 → va_P D aw_C L H → va_D (aw_Z N0) L → az_Sh g ad zG zO zX zY zA zB zM zI zL (nI 3) zN zF zQ L → va_S (aw_Z N0) s.heap H locs → lv_has ls 8 [(0, .ref (aw_m ad 0)), (1, .long b), (3, .int ((v_Mo_off3V_L286 zI b t).1)), (4, .int ((v_Mo_off3V_L286 zI b t).2)), (5, .int ((-957401312))), (6, .int (aw_dn (44 - t)))] → W p l e (headSpec ws_Mo_off3V rm_Mo_off3V).room s m ([.ref (aw_m ad 0), .long b] : List Value).toArray below meth c H locs 0 0 (MQ below (va_Ql (fun r (_ : Unit) => r = v_Mo_off3V zI b) (fun (_ : Unit) t => ag_H D N0 (az_Sh g ad zG zO zX zY zA zB zM zI zL (nI 3) zN zF zQ) t.heap) (aw_Z N0)) ([.ref (aw_m ad 0), .long b] : List Value).toArray s 0 0 (aw_Z N0)) (F0 m 286 ls []) := by
    clear hl hP hD hSh hS
    intro d
    induction d with
    | zero =>
      intro t H locs L ls ht0 hP hD hSh hS hl
      have ht1 : t = 44 := by omega
      subst ht1
      have hl : lv_has ls 8 [(0, .ref (aw_m ad 0)), (1, .long b), (3, .int ((v_Mo_off3V_L286 zI b 44).1)), (4, .int ((v_Mo_off3V_L286 zI b 44).2)), (5, .int ((-957401312))), (6, .int (aw_dn (44 - 44)))] := hl
      refine lv_iload hx hb d_Mo_off_286 (lv_at hl 5 rfl) ?_
      refine lv_if_lt (tgt := 337) hx hb d_Mo_off_288 (by decide) (fun _ => ?_) (fun h => absurd (by decide +kernel) h)
      refine lv_iload_n hx hb d_Mo_off_337 rfl (lv_at hl 2 rfl) ?_
      refine lv_iload hx hb d_Mo_off_338 (lv_at hl 3 rfl) ?_
      refine aw_cl ((va_runS (As := [.int ((v_Mo_off3V_L286 zI b 44).1), .int ((v_Mo_off3V_L286 zI b 44).2)]) (rest := []) ⟨hx, hb, hml, hown, hG⟩ (k_Mo_joinedV l ((v_Mo_off3V_L286 zI b 44).1) ((v_Mo_off3V_L286 zI b 44).2)) (aw_wS 2 hG gw_11_43 gw_11_41 gw_0_10 gw_11_42 rfl rfl hd_Mo_joined ⟨Nat.le_of_ble_eq_true rfl, Nat.le_of_ble_eq_true rfl⟩) aw_p0 rfl rfl hl.1 rfl (lv_room (Nat.le_of_ble_eq_true rfl)) d_Mo_off_340 ⟨Nat.le_of_ble_eq_true rfl, Nat.le_of_ble_eq_true rfl⟩).run) (fun y5 ey5 => ?_)
      have ey5 := ey5.symm
      exact W.lret hx hb hr (fun t ht hW => ⟨⟨_, (), rfl, (by subst ey5 ex2 ex1; rfl), ag_Hr ht hP hD hSh⟩, hS.F ht⟩) hS.2.2 d_Mo_off_343
    | succ d ih =>
      intro t H locs L ls ht0 hP hD hSh hS hl
      rw [aw_dnT 44 t (by omega)] at hl
      have hl : lv_has ls 8 [(0, .ref (aw_m ad 0)), (1, .long b), (3, .int ((v_Mo_off3V_L286 zI b t).1)), (4, .int ((v_Mo_off3V_L286 zI b t).2)), (5, .int ((-957401312))), (6, .int (nI (43 - t)))] := hl
      refine lv_iload hx hb d_Mo_off_286 (lv_at hl 5 rfl) ?_
      refine lv_if_lt (tgt := 337) hx hb d_Mo_off_288 (by decide) (fun h => absurd h (show ¬ nI (43 - t) < nI 0 from fun h9 => absurd ((nI_ltI (by omega) (by omega)).mp h9) (by omega))) (fun _ => ?_)
      refine lv_iload hx hb d_Mo_off_291 (lv_at hl 3 rfl) ?_
      refine lv_istore hx hb d_Mo_off_293 hl (by decide) rfl (fun ls hl => ?_)
      have hl : lv_has ls 8 [(7, .int ((v_Mo_off3V_L286 zI b t).2)), (0, .ref (aw_m ad 0)), (1, .long b), (3, .int ((v_Mo_off3V_L286 zI b t).1)), (4, .int ((v_Mo_off3V_L286 zI b t).2)), (5, .int ((-957401312))), (6, .int (nI (43 - t)))] := hl
      refine lv_iload_n hx hb d_Mo_off_295 rfl (lv_at hl 3 rfl) ?_
      refine lv_iload hx hb d_Mo_off_296 (lv_at hl 4 rfl) ?_
      refine lv_iconst (v := nI 1) hx hb d_Mo_off_298 (by decide +kernel) ?_
      refine aw_ci ((va_runS (As := [.int ((v_Mo_off3V_L286 zI b t).2), .int (nI 1)]) (rest := [.int ((v_Mo_off3V_L286 zI b t).1)]) ⟨hx, hb, hml, hown, hG⟩ (k_Mo_turnV l ((v_Mo_off3V_L286 zI b t).2) (nI 1)) (aw_wS 2 hG gw_11_24 gw_11_22 gw_0_10 gw_11_23 rfl rfl hd_Mo_turn ⟨Nat.le_of_ble_eq_true rfl, Nat.le_of_ble_eq_true rfl⟩) aw_p0 rfl rfl hl.1 rfl (lv_room (Nat.le_of_ble_eq_true rfl)) d_Mo_off_299 ⟨Nat.le_of_ble_eq_true rfl, Nat.le_of_ble_eq_true rfl⟩).run) (fun x6 ex6 => ?_)
      have ex6 := ex6.symm
      refine lv_iload hx hb d_Mo_off_302 (lv_at hl 4 rfl) ?_
      refine lv_bipush (v := nI 8) hx hb d_Mo_off_304 (by decide +kernel) ?_
      refine aw_ci ((va_runS (As := [.int ((v_Mo_off3V_L286 zI b t).2), .int (nI 8)]) (rest := [.int x6, .int ((v_Mo_off3V_L286 zI b t).1)]) ⟨hx, hb, hml, hown, hG⟩ (k_Mo_turnV l ((v_Mo_off3V_L286 zI b t).2) (nI 8)) (aw_wS 2 hG gw_11_24 gw_11_22 gw_0_10 gw_11_23 rfl rfl hd_Mo_turn ⟨Nat.le_of_ble_eq_true rfl, Nat.le_of_ble_eq_true rfl⟩) aw_p0 rfl rfl hl.1 rfl (lv_room (Nat.le_of_ble_eq_true rfl)) d_Mo_off_306 ⟨Nat.le_of_ble_eq_true rfl, Nat.le_of_ble_eq_true rfl⟩).run) (fun x7 ex7 => ?_)
      have ex7 := ex7.symm
      refine lv_iand hx hb d_Mo_off_309 ?_
      refine ag_topi (fun x8 ex8 => ?_)
      refine lv_ixor hx hb d_Mo_off_310 ?_
      refine ag_topi (fun x9 ex9 => ?_)
      refine lv_iload hx hb d_Mo_off_311 (lv_at hl 4 rfl) ?_
      refine lv_iconst (v := nI 2) hx hb d_Mo_off_313 (by decide +kernel) ?_
      refine aw_ci ((va_runS (As := [.int ((v_Mo_off3V_L286 zI b t).2), .int (nI 2)]) (rest := [.int x9]) ⟨hx, hb, hml, hown, hG⟩ (k_Mo_turnV l ((v_Mo_off3V_L286 zI b t).2) (nI 2)) (aw_wS 2 hG gw_11_24 gw_11_22 gw_0_10 gw_11_23 rfl rfl hd_Mo_turn ⟨Nat.le_of_ble_eq_true rfl, Nat.le_of_ble_eq_true rfl⟩) aw_p0 rfl rfl hl.1 rfl (lv_room (Nat.le_of_ble_eq_true rfl)) d_Mo_off_314 ⟨Nat.le_of_ble_eq_true rfl, Nat.le_of_ble_eq_true rfl⟩).run) (fun x10 ex10 => ?_)
      have ex10 := ex10.symm
      refine lv_ixor hx hb d_Mo_off_317 ?_
      refine ag_topi (fun x11 ex11 => ?_)
      refine lv_aload_n hx hb d_Mo_off_318 rfl (lv_at hl 1 rfl) ?_
      obtain ⟨hsd13, he12⟩ := zr_M0 hSh
      refine va_get (C := R_Mo) (T := T_Mo) (N := 19) (v := .ref (aw_m ad 15)) hx hb hG in_Mo hown hK hP 67 he12 rfl 17 (by decide) (hG _ gw_9_42) (fun _ h => h) rfl d_Mo_off_319 ?_
      clear he12
      refine lv_iload hx hb d_Mo_off_322 (lv_at hl 6 rfl) ?_
      have he14 := zr_M15 hSh
      refine aw_ild hx hb hK hP 82 0 he14 rfl (k := (43 - t)) (by omega) (by decide) d_Mo_off_324 ?_
      clear he14
      refine ag_topi (fun x15 ex15 => ?_)
      refine lv_ixor hx hb d_Mo_off_325 ?_
      refine ag_topi (fun x16 ex16 => ?_)
      refine lv_istore hx hb d_Mo_off_326 hl (by decide) rfl (fun ls hl => ?_)
      have hl : lv_has ls 8 [(4, .int x16), (7, .int ((v_Mo_off3V_L286 zI b t).2)), (0, .ref (aw_m ad 0)), (1, .long b), (3, .int ((v_Mo_off3V_L286 zI b t).1)), (5, .int ((-957401312))), (6, .int (nI (43 - t)))] := hl
      refine lv_iload hx hb d_Mo_off_328 (lv_at hl 1 rfl) ?_
      refine lv_istore_n hx hb d_Mo_off_330 rfl hl (by decide) rfl (fun ls hl => ?_)
      have hl : lv_has ls 8 [(3, .int ((v_Mo_off3V_L286 zI b t).2)), (4, .int x16), (7, .int ((v_Mo_off3V_L286 zI b t).2)), (0, .ref (aw_m ad 0)), (1, .long b), (5, .int ((-957401312))), (6, .int (nI (43 - t)))] := hl
      refine lv_iinc (k := 6) (v := aw_dn (44 - (t + 1))) hx hb d_Mo_off_331 hl rfl (aw_dnS 44 t (by omega)) (by decide) rfl (fun ls hl => ?_)
      have hl : lv_has ls 8 [(6, .int (aw_dn (44 - (t + 1)))), (3, .int ((v_Mo_off3V_L286 zI b t).2)), (4, .int x16), (7, .int ((v_Mo_off3V_L286 zI b t).2)), (0, .ref (aw_m ad 0)), (1, .long b), (5, .int ((-957401312)))] := hl
      refine lv_goto (tgt := 286) hx hb d_Mo_off_334 (by decide) ?_
      have hl := lv_sub hl (l' := [(0, .ref (aw_m ad 0)), (1, .long b), (3, .int ((v_Mo_off3V_L286 zI b t).2)), (4, .int x16), (5, .int ((-957401312))), (6, .int (aw_dn (44 - (t + 1))))]) [4, 5, 1, 2, 6, 0] rfl
      have g0 : (v_Mo_off3V_L286 zI b t).2 = (v_Mo_off3V_L286 zI b (t + 1)).1 := by subst ex16 ex15 ex11 ex10 ex9 ex8 ex7 ex6 ex2 ex1; (rw [v_Mo_off3V_L286_s]) <;> rfl
      have g1 : x16 = (v_Mo_off3V_L286 zI b (t + 1)).2 := by subst ex16 ex15 ex11 ex10 ex9 ex8 ex7 ex6 ex2 ex1; (rw [v_Mo_off3V_L286_s]) <;> rfl
      have hl : lv_has ls 8 [(0, .ref (aw_m ad 0)), (1, .long b), (3, .int ((v_Mo_off3V_L286 zI b (t + 1)).1)), (4, .int ((v_Mo_off3V_L286 zI b (t + 1)).2)), (5, .int ((-957401312))), (6, .int (aw_dn (44 - (t + 1))))] := by rw [← g0, ← g1]; exact hl
      exact ih (t + 1) H locs L ls (by omega) hP hD hSh hS (by first | exact hl | simpa [Nat.add_assoc, Nat.mul_add, Nat.add_comm] using hl)
  have hl := lv_sub hl (l' := [(0, .ref (aw_m ad 0)), (1, .long b), (3, .int x1), (4, .int x2), (5, .int ((-957401312))), (6, .int (nI 43))]) [4, 5, 3, 2, 1, 0] rfl
  have g0 : x1 = (v_Mo_off3V_L286 zI b 0).1 := by subst ex2 ex1; (rw [v_Mo_off3V_L286_z]) <;> rfl
  have g1 : x2 = (v_Mo_off3V_L286 zI b 0).2 := by subst ex2 ex1; (rw [v_Mo_off3V_L286_z]) <;> rfl
  have hl : lv_has ls 8 [(0, .ref (aw_m ad 0)), (1, .long b), (3, .int ((v_Mo_off3V_L286 zI b 0).1)), (4, .int ((v_Mo_off3V_L286 zI b 0).2)), (5, .int ((-957401312))), (6, .int (nI 43))] := by rw [← g0, ← g1]; exact hl
  exact L286 44 0 _ _ L ls (by omega) hP hD hSh hS (by first | exact hl | simpa using hl)
noncomputable def v_Mo_off4V (zI : Nat → Nat → Int32) (b : Int64) : Int64 := v_Mo_offFourV zI b
abbrev ws_Mo_off4V : List Cond := Cond.code y_Mo_off b_Mo_off 8 (some .long) :: aw_G
abbrev rm_Mo_off4V : Room := { frames := 3, cells := 0, slots := 0, locals := 78 }
set_option maxHeartbeats 4000000 in
set_option maxRecDepth 100000 in
theorem k_Mo_off4V (l : Launch) (D : va_G) (g : Nat → ClassId) (ad : Nat → Nat) (N0 : Nat) (zG : Nat → Nat × Nat) (zO : Nat → Nat) (zX : Nat → Nat → Int64) (zY : Nat → Nat → Int32) (zA : Nat → Nat → Nat → Int32) (zB : Nat → Int32) (zM : Nat → Nat × Nat) (zI : Nat → Nat → Int32) (zL : Nat → Nat → Int64) (zN : Nat) (zF : Int32) (zQ : Int64) (b : Int64) : Met l y_Mo_off ws_Mo_off4V rm_Mo_off4V (va_Pc ([.ref (aw_m ad 0), .long b] : List Value) (ag_B D g N0 (az_Sh g ad zG zO zX zY zA zB zM zI zL (nI 4) zN zF zQ))) (va_Ql (fun r (_ : Unit) => r = v_Mo_off4V zI b) (fun (_ : Unit) t => ag_H D N0 (az_Sh g ad zG zO zX zY zA zB zM zI zL (nI 4) zN zF zQ) t.heap) (aw_Z N0)) 0 0 (aw_Z N0) := by
  refine Met.ofW (cc := b_Mo_off) (maxL := 8) (ret := (some .long)) (by decide) rfl ?_
  intro p e s m args below meth c s₁ B hml hv
  obtain ⟨rfl, ⟨L, hP, hD, hSh⟩, hU⟩ := hv
  have hx := B.exec
  have hb := B.bytes
  have hr := B.returns
  have hG : ∀ w ∈ aw_G, w.before _ s = true := fun w h => atoms_spec (ws := ws_Mo_off4V) B.pre w (List.mem_cons_of_mem _ h)
  have hown : s.vm.findClass "RuleCiphersModel" = some m.cls := findClass_of_methodNamed B.named
  have hlocks := B.notSynchronized
  have hE := hU.1
  have hK := hE.1
  have hN := hE.2.1
  have hS : va_S (aw_Z N0) s.heap s.heap [] := va_S.rf
  have hl := lv_entry ([.ref (aw_m ad 0), .long b] : List Value) (n := 8) (Nat.le_of_ble_eq_true rfl)
  rw [lg_entry_eq]
  generalize (lg_sl ([.ref (aw_m ad 0), .long b] : List Value) ++ List.replicate (8 - (lg_sl ([.ref (aw_m ad 0), .long b] : List Value)).length) Slot.unset).toArray = ls at hl ⊢
  have hl : lv_has ls 8 [(0, .ref (aw_m ad 0)), (1, .long b)] := hl
  refine lv_lload_n hx hb d_Mo_off_0 rfl (lv_at hl 1 rfl) ?_
  refine aw_ci ((va_runS (As := [.long b]) (rest := []) ⟨hx, hb, hml, hown, hG⟩ (k_Mo_upperV l b) (aw_wS 1 hG gw_11_17 gw_11_15 gw_0_10 gw_11_16 rfl rfl hd_Mo_upper ⟨Nat.le_of_ble_eq_true rfl, Nat.le_of_ble_eq_true rfl⟩) aw_p0 rfl rfl hl.1 rfl (lv_room (Nat.le_of_ble_eq_true rfl)) d_Mo_off_1 ⟨Nat.le_of_ble_eq_true rfl, Nat.le_of_ble_eq_true rfl⟩).run) (fun x1 ex1 => ?_)
  have ex1 := ex1.symm
  refine lv_istore_n hx hb d_Mo_off_4 rfl hl (by decide) rfl (fun ls hl => ?_)
  have hl : lv_has ls 8 [(3, .int x1), (0, .ref (aw_m ad 0)), (1, .long b)] := hl
  refine lv_lload_n hx hb d_Mo_off_5 rfl (lv_at hl 2 rfl) ?_
  refine lv_l2i hx hb d_Mo_off_6 rfl ?_
  refine ag_topi (fun x2 ex2 => ?_)
  refine lv_istore hx hb d_Mo_off_7 hl (by decide) rfl (fun ls hl => ?_)
  have hl : lv_has ls 8 [(4, .int x2), (3, .int x1), (0, .ref (aw_m ad 0)), (1, .long b)] := hl
  refine lv_ldc (v := (-957401312)) hx hb hown (hG _ gw_11_40) d_Mo_off_9 ?_
  refine lv_istore hx hb d_Mo_off_11 hl (by decide) rfl (fun ls hl => ?_)
  have hl : lv_has ls 8 [(5, .int ((-957401312))), (4, .int x2), (3, .int x1), (0, .ref (aw_m ad 0)), (1, .long b)] := hl
  refine lv_aload_n hx hb d_Mo_off_13 rfl (lv_at hl 3 rfl) ?_
  obtain ⟨hsd4, he3⟩ := zr_M0 hSh
  refine va_get (C := R_Mo) (T := T_Mo) (N := 19) (v := .int (nI 4)) hx hb hG in_Mo hown hK hP 67 he3 rfl 15 (by decide) (hG _ gw_9_40) (fun _ h => h) rfl d_Mo_off_14 ?_
  clear he3
  refine lv_tableOut (tgt := 344) hx hb d_Mo_off_17 (by decide +kernel) (by decide) ?_
  refine lv_aload_n hx hb d_Mo_off_344 rfl (lv_at hl 3 rfl) ?_
  refine lv_lload_n hx hb d_Mo_off_345 rfl (lv_at hl 4 rfl) ?_
  obtain ⟨_, he5⟩ := zr_M0 hSh
  refine va_calll (va_runV (As := [.long b]) (rest := []) ⟨hx, hb, hml, hown, hG⟩ (k_Mo_offFourV l D g ad N0 zG zO zX zY zA zB zM zI zL (nI 4) zN zF zQ b) (aw_wV 1 hG gw_11_47 gw_11_45 gw_0_10 gw_11_46 gw_p_17 rfl rfl hd_Mo_offFour ⟨Nat.le_of_ble_eq_true rfl, Nat.le_of_ble_eq_true rfl⟩) (ag_qV (va_recv hK hP rfl he5) hP hD hSh hU hS) rfl rfl hl.1 rfl (lv_room (Nat.le_of_ble_eq_true rfl)) d_Mo_off_346 ⟨Nat.le_of_ble_eq_true rfl, Nat.le_of_ble_eq_true rfl⟩) hS (fun _ _ h => h) (fun _ h => h) ?_
  clear hP hD hSh hS he5
  intro y6 u8 t8 H locs ht _ ey6 hB _ _ hS
  obtain ⟨L, hP, hD, hSh⟩ := hB
  rw [ht] at hP
  clear ht
  have ey6 := ey6.symm
  exact W.lret hx hb hr (fun t ht hW => ⟨⟨_, (), rfl, (by subst ey6 ex2 ex1; rfl), ag_Hr ht hP hD hSh⟩, hS.F ht⟩) hS.2.2 d_Mo_off_349
