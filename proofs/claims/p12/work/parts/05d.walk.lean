abbrev ws_Mo_onFour : List Cond := Cond.code y_Mo_onFour b_Mo_onFour 12 (some .long) :: aw_G
abbrev rm_Mo_onFour : Room := { frames := 1, cells := 0, slots := 0, locals := 25 }
set_option maxHeartbeats 4000000 in
set_option maxRecDepth 100000 in
theorem k_Mo_onFour (l : Launch) (D : va_G) (g : Nat → ClassId) (ad : Nat → Nat) (G M : Nat → Nat × Nat) (F : Int32) (N0 : Nat) (b : Int64) : Met l y_Mo_onFour ws_Mo_onFour rm_Mo_onFour (va_Pc ([.ref (aw_m ad 0), .long b] : List Value) (aw_B D g ad G M F N0)) (va_Ql (fun r (_ : Unit) => True) (fun (_ : Unit) t => aw_H D g ad G M F N0 t.heap) (aw_Z N0)) 0 0 (aw_Z N0) := by
  refine Met.ofW (cc := b_Mo_onFour) (maxL := 12) (ret := (some .long)) (by decide) rfl ?_
  intro p e s m args below meth c s₁ B hml hv
  obtain ⟨rfl, ⟨L, hP, hD, hSh⟩, hU⟩ := hv
  have hx := B.exec
  have hb := B.bytes
  have hr := B.returns
  have hG : ∀ w ∈ aw_G, w.before _ s = true := fun w h => atoms_spec (ws := ws_Mo_onFour) B.pre w (List.mem_cons_of_mem _ h)
  have hown : s.vm.findClass "RuleCiphersModel" = some m.cls := findClass_of_methodNamed B.named
  have hlocks := B.notSynchronized
  have hE := hU.1
  have hK := hE.1
  have hN := hE.2.1
  have hS : va_S (aw_Z N0) s.heap s.heap [] := va_S.rf
  have hl := lv_entry ([.ref (aw_m ad 0), .long b] : List Value) (n := 12) (Nat.le_of_ble_eq_true rfl)
  rw [lg_entry_eq]
  generalize (lg_sl ([.ref (aw_m ad 0), .long b] : List Value) ++ List.replicate (12 - (lg_sl ([.ref (aw_m ad 0), .long b] : List Value)).length) Slot.unset).toArray = ls at hl ⊢
  have hl : lv_has ls 12 [(0, .ref (aw_m ad 0)), (1, .long b)] := hl
  refine lv_lload_n hx hb d_Mo_onFour_0 rfl (lv_at hl 1 rfl) ?_
  refine lv_iconst (v := nI 0) hx hb d_Mo_onFour_1 (by decide +kernel) ?_
  refine aw_ci ((va_runS (As := [.long b, .int (nI 0)]) (rest := []) ⟨hx, hb, hml, hown, hG⟩ (k_Mo_part l b (nI 0)) (aw_wS 2 hG gw_11_50 gw_11_48 gw_0_10 gw_11_49 rfl rfl hd_Mo_part ⟨Nat.le_of_ble_eq_true rfl, Nat.le_of_ble_eq_true rfl⟩) aw_p0 rfl rfl hl.1 rfl (lv_room (Nat.le_of_ble_eq_true rfl)) d_Mo_onFour_2 ⟨Nat.le_of_ble_eq_true rfl, Nat.le_of_ble_eq_true rfl⟩).run) (fun x1 hx1 => ?_)
  refine lv_istore_n hx hb d_Mo_onFour_5 rfl hl (by decide) rfl (fun ls hl => ?_)
  have hl : lv_has ls 12 [(3, .int x1), (0, .ref (aw_m ad 0)), (1, .long b)] := hl
  refine lv_lload_n hx hb d_Mo_onFour_6 rfl (lv_at hl 2 rfl) ?_
  refine lv_iconst (v := nI 1) hx hb d_Mo_onFour_7 (by decide +kernel) ?_
  refine aw_ci ((va_runS (As := [.long b, .int (nI 1)]) (rest := []) ⟨hx, hb, hml, hown, hG⟩ (k_Mo_part l b (nI 1)) (aw_wS 2 hG gw_11_50 gw_11_48 gw_0_10 gw_11_49 rfl rfl hd_Mo_part ⟨Nat.le_of_ble_eq_true rfl, Nat.le_of_ble_eq_true rfl⟩) aw_p0 rfl rfl hl.1 rfl (lv_room (Nat.le_of_ble_eq_true rfl)) d_Mo_onFour_8 ⟨Nat.le_of_ble_eq_true rfl, Nat.le_of_ble_eq_true rfl⟩).run) (fun x2 hx2 => ?_)
  refine lv_istore hx hb d_Mo_onFour_11 hl (by decide) rfl (fun ls hl => ?_)
  have hl : lv_has ls 12 [(4, .int x2), (3, .int x1), (0, .ref (aw_m ad 0)), (1, .long b)] := hl
  refine lv_lload_n hx hb d_Mo_onFour_13 rfl (lv_at hl 3 rfl) ?_
  refine lv_iconst (v := nI 2) hx hb d_Mo_onFour_14 (by decide +kernel) ?_
  refine aw_ci ((va_runS (As := [.long b, .int (nI 2)]) (rest := []) ⟨hx, hb, hml, hown, hG⟩ (k_Mo_part l b (nI 2)) (aw_wS 2 hG gw_11_50 gw_11_48 gw_0_10 gw_11_49 rfl rfl hd_Mo_part ⟨Nat.le_of_ble_eq_true rfl, Nat.le_of_ble_eq_true rfl⟩) aw_p0 rfl rfl hl.1 rfl (lv_room (Nat.le_of_ble_eq_true rfl)) d_Mo_onFour_15 ⟨Nat.le_of_ble_eq_true rfl, Nat.le_of_ble_eq_true rfl⟩).run) (fun x3 hx3 => ?_)
  refine lv_istore hx hb d_Mo_onFour_18 hl (by decide) rfl (fun ls hl => ?_)
  have hl : lv_has ls 12 [(5, .int x3), (4, .int x2), (3, .int x1), (0, .ref (aw_m ad 0)), (1, .long b)] := hl
  refine lv_lload_n hx hb d_Mo_onFour_20 rfl (lv_at hl 4 rfl) ?_
  refine lv_iconst (v := nI 3) hx hb d_Mo_onFour_21 (by decide +kernel) ?_
  refine aw_ci ((va_runS (As := [.long b, .int (nI 3)]) (rest := []) ⟨hx, hb, hml, hown, hG⟩ (k_Mo_part l b (nI 3)) (aw_wS 2 hG gw_11_50 gw_11_48 gw_0_10 gw_11_49 rfl rfl hd_Mo_part ⟨Nat.le_of_ble_eq_true rfl, Nat.le_of_ble_eq_true rfl⟩) aw_p0 rfl rfl hl.1 rfl (lv_room (Nat.le_of_ble_eq_true rfl)) d_Mo_onFour_22 ⟨Nat.le_of_ble_eq_true rfl, Nat.le_of_ble_eq_true rfl⟩).run) (fun x4 hx4 => ?_)
  refine lv_istore hx hb d_Mo_onFour_25 hl (by decide) rfl (fun ls hl => ?_)
  have hl : lv_has ls 12 [(6, .int x4), (5, .int x3), (4, .int x2), (3, .int x1), (0, .ref (aw_m ad 0)), (1, .long b)] := hl
  refine lv_iconst (v := nI 0) hx hb d_Mo_onFour_27 (by decide +kernel) ?_
  refine lv_istore hx hb d_Mo_onFour_28 hl (by decide) rfl (fun ls hl => ?_)
  have hl : lv_has ls 12 [(7, .int (nI 0)), (6, .int x4), (5, .int x3), (4, .int x2), (3, .int x1), (0, .ref (aw_m ad 0)), (1, .long b)] := hl
  have L30 : ∀ (d t : Nat) (x5 : Int32) (x6 : Int32) (x7 : Int32) (x8 : Int32) (H : Heap) (locs : List Loc) (L : va_W) (ls : Array Slot), t + d = 8 → va_P D aw_C L H → va_D (aw_Z N0) L → aw_Sh g ad G M F L → va_S (aw_Z N0) s.heap H locs → lv_has ls 12 [(0, .ref (aw_m ad 0)), (1, .long b), (3, .int x5), (4, .int x6), (5, .int x7), (6, .int x8), (7, .int (nI (6 * t)))] → W p l e (headSpec ws_Mo_onFour rm_Mo_onFour).room s m ([.ref (aw_m ad 0), .long b] : List Value).toArray below meth c H locs 0 0 (MQ below (va_Ql (fun r (_ : Unit) => True) (fun (_ : Unit) t => aw_H D g ad G M F N0 t.heap) (aw_Z N0)) ([.ref (aw_m ad 0), .long b] : List Value).toArray s 0 0 (aw_Z N0)) (F0 m 30 ls []) := by
    clear hP hD hSh hS
    clear hl
    intro d
    induction d with
    | zero => 
      intro t x5 x6 x7 x8 H locs L ls ht0 hP hD hSh hS hl
      refine lv_iload hx hb d_Mo_onFour_30 (lv_at hl 6 rfl) ?_
      refine lv_bipush (v := nI 48) hx hb d_Mo_onFour_32 (by decide +kernel) ?_
      refine lv_icmp_ge (tgt := 188) hx hb d_Mo_onFour_34 (by decide) (fun _ => ?_) (fun h => absurd (show nI 48 ≤ nI (6 * t) from (nI_leI (by omega) (by omega)).mpr (by omega)) h)
      refine lv_iload_n hx hb d_Mo_onFour_188 rfl (lv_at hl 2 rfl) ?_
      refine lv_aload_n hx hb d_Mo_onFour_189 rfl (lv_at hl 0 rfl) ?_
      obtain ⟨x10, o11, hw12, he9⟩ := rd_M0 hSh
      refine va_get (C := R_Mo) (T := T_Mo) (N := 19) (v := .ref (aw_m ad 15)) hx hb hG in_Mo hown hK hP 67 he9 rfl 17 (by decide) (hG _ gw_9_42) (fun _ h => h) rfl d_Mo_onFour_190 ?_
      refine lv_bipush (v := nI 48) hx hb d_Mo_onFour_193 (by decide +kernel) ?_
      obtain ⟨f14, he13⟩ := rd_M15 hSh
      refine aw_ild hx hb hK hP 82 0 he13 rfl (k := 48) (by omega) (by decide) d_Mo_onFour_195 ?_
      refine lv_topi (fun x15 _ => ?_)
      refine aw_ci ((va_runS (As := [.int x5, .int x15]) (rest := []) ⟨hx, hb, hml, hown, hG⟩ (k_Mo_times l x5 x15) (aw_wS 2 hG gw_11_56 gw_11_54 gw_0_10 gw_11_55 rfl rfl hd_Mo_times ⟨Nat.le_of_ble_eq_true rfl, Nat.le_of_ble_eq_true rfl⟩) aw_p0 rfl rfl hl.1 rfl (lv_room (Nat.le_of_ble_eq_true rfl)) d_Mo_onFour_196 ⟨Nat.le_of_ble_eq_true rfl, Nat.le_of_ble_eq_true rfl⟩).run) (fun x16 hx16 => ?_)
      refine lv_iload hx hb d_Mo_onFour_199 (lv_at hl 4 rfl) ?_
      refine lv_aload_n hx hb d_Mo_onFour_201 rfl (lv_at hl 0 rfl) ?_
      obtain ⟨x18, o19, hw20, he17⟩ := rd_M0 hSh
      refine va_get (C := R_Mo) (T := T_Mo) (N := 19) (v := .ref (aw_m ad 15)) hx hb hG in_Mo hown hK hP 67 he17 rfl 17 (by decide) (hG _ gw_9_42) (fun _ h => h) rfl d_Mo_onFour_202 ?_
      refine lv_bipush (v := nI 49) hx hb d_Mo_onFour_205 (by decide +kernel) ?_
      obtain ⟨f22, he21⟩ := rd_M15 hSh
      refine aw_ild hx hb hK hP 82 0 he21 rfl (k := 49) (by omega) (by decide) d_Mo_onFour_207 ?_
      refine lv_topi (fun x23 _ => ?_)
      refine aw_ci ((va_runS (As := [.int x7, .int x23]) (rest := [.int x16]) ⟨hx, hb, hml, hown, hG⟩ (k_Mo_sum l x7 x23) (aw_wS 2 hG gw_12_10 gw_12_8 gw_0_10 gw_12_9 rfl rfl hd_Mo_sum ⟨Nat.le_of_ble_eq_true rfl, Nat.le_of_ble_eq_true rfl⟩) aw_p0 rfl rfl hl.1 rfl (lv_room (Nat.le_of_ble_eq_true rfl)) d_Mo_onFour_208 ⟨Nat.le_of_ble_eq_true rfl, Nat.le_of_ble_eq_true rfl⟩).run) (fun x24 hx24 => ?_)
      refine lv_iload hx hb d_Mo_onFour_211 (lv_at hl 3 rfl) ?_
      refine lv_aload_n hx hb d_Mo_onFour_213 rfl (lv_at hl 0 rfl) ?_
      obtain ⟨x26, o27, hw28, he25⟩ := rd_M0 hSh
      refine va_get (C := R_Mo) (T := T_Mo) (N := 19) (v := .ref (aw_m ad 15)) hx hb hG in_Mo hown hK hP 67 he25 rfl 17 (by decide) (hG _ gw_9_42) (fun _ h => h) rfl d_Mo_onFour_214 ?_
      refine lv_bipush (v := nI 50) hx hb d_Mo_onFour_217 (by decide +kernel) ?_
      obtain ⟨f30, he29⟩ := rd_M15 hSh
      refine aw_ild hx hb hK hP 82 0 he29 rfl (k := 50) (by omega) (by decide) d_Mo_onFour_219 ?_
      refine lv_topi (fun x31 _ => ?_)
      refine aw_ci ((va_runS (As := [.int x6, .int x31]) (rest := [.int x24, .int x16]) ⟨hx, hb, hml, hown, hG⟩ (k_Mo_sum l x6 x31) (aw_wS 2 hG gw_12_10 gw_12_8 gw_0_10 gw_12_9 rfl rfl hd_Mo_sum ⟨Nat.le_of_ble_eq_true rfl, Nat.le_of_ble_eq_true rfl⟩) aw_p0 rfl rfl hl.1 rfl (lv_room (Nat.le_of_ble_eq_true rfl)) d_Mo_onFour_220 ⟨Nat.le_of_ble_eq_true rfl, Nat.le_of_ble_eq_true rfl⟩).run) (fun x32 hx32 => ?_)
      refine lv_iload hx hb d_Mo_onFour_223 (lv_at hl 5 rfl) ?_
      refine lv_aload_n hx hb d_Mo_onFour_225 rfl (lv_at hl 0 rfl) ?_
      obtain ⟨x34, o35, hw36, he33⟩ := rd_M0 hSh
      refine va_get (C := R_Mo) (T := T_Mo) (N := 19) (v := .ref (aw_m ad 15)) hx hb hG in_Mo hown hK hP 67 he33 rfl 17 (by decide) (hG _ gw_9_42) (fun _ h => h) rfl d_Mo_onFour_226 ?_
      refine lv_bipush (v := nI 51) hx hb d_Mo_onFour_229 (by decide +kernel) ?_
      obtain ⟨f38, he37⟩ := rd_M15 hSh
      refine aw_ild hx hb hK hP 82 0 he37 rfl (k := 51) (by omega) (by decide) d_Mo_onFour_231 ?_
      refine lv_topi (fun x39 _ => ?_)
      refine aw_ci ((va_runS (As := [.int x8, .int x39]) (rest := [.int x32, .int x24, .int x16]) ⟨hx, hb, hml, hown, hG⟩ (k_Mo_times l x8 x39) (aw_wS 2 hG gw_11_56 gw_11_54 gw_0_10 gw_11_55 rfl rfl hd_Mo_times ⟨Nat.le_of_ble_eq_true rfl, Nat.le_of_ble_eq_true rfl⟩) aw_p0 rfl rfl hl.1 rfl (lv_room (Nat.le_of_ble_eq_true rfl)) d_Mo_onFour_232 ⟨Nat.le_of_ble_eq_true rfl, Nat.le_of_ble_eq_true rfl⟩).run) (fun x40 hx40 => ?_)
      refine aw_cl ((va_runS (As := [.int x16, .int x24, .int x32, .int x40]) (rest := []) ⟨hx, hb, hml, hown, hG⟩ (k_Mo_four l x16 x24 x32 x40) (aw_wS 4 hG gw_12_1 gw_11_59 gw_0_10 gw_12_0 rfl rfl hd_Mo_four ⟨Nat.le_of_ble_eq_true rfl, Nat.le_of_ble_eq_true rfl⟩) aw_p0 rfl rfl hl.1 rfl (lv_room (Nat.le_of_ble_eq_true rfl)) d_Mo_onFour_235 ⟨Nat.le_of_ble_eq_true rfl, Nat.le_of_ble_eq_true rfl⟩).run) (fun y41 hy41 => ?_)
      exact W.lret hx hb hr (fun t ht hW => ⟨⟨_, (), rfl, trivial, aw_Hr ht hP hD hSh⟩, hS.F ht⟩) hS.2.2 d_Mo_onFour_238
    | succ d ih => 
      intro t x5 x6 x7 x8 H locs L ls ht0 hP hD hSh hS hl
      refine lv_iload hx hb d_Mo_onFour_30 (lv_at hl 6 rfl) ?_
      refine lv_bipush (v := nI 48) hx hb d_Mo_onFour_32 (by decide +kernel) ?_
      refine lv_icmp_ge (tgt := 188) hx hb d_Mo_onFour_34 (by decide) (fun h => absurd h (show ¬ nI 48 ≤ nI (6 * t) from fun h9 => absurd ((nI_leI (by omega) (by omega)).mp h9) (by omega))) (fun _ => ?_)
      refine lv_iload_n hx hb d_Mo_onFour_37 rfl (lv_at hl 2 rfl) ?_
      refine lv_aload_n hx hb d_Mo_onFour_38 rfl (lv_at hl 0 rfl) ?_
      obtain ⟨x43, o44, hw45, he42⟩ := rd_M0 hSh
      refine va_get (C := R_Mo) (T := T_Mo) (N := 19) (v := .ref (aw_m ad 15)) hx hb hG in_Mo hown hK hP 67 he42 rfl 17 (by decide) (hG _ gw_9_42) (fun _ h => h) rfl d_Mo_onFour_39 ?_
      refine lv_iload hx hb d_Mo_onFour_42 (lv_at hl 6 rfl) ?_
      obtain ⟨f47, he46⟩ := rd_M15 hSh
      refine aw_ild hx hb hK hP 82 0 he46 rfl (k := (6 * t)) (by omega) (by decide) d_Mo_onFour_44 ?_
      refine lv_topi (fun x48 _ => ?_)
      refine aw_ci ((va_runS (As := [.int x5, .int x48]) (rest := []) ⟨hx, hb, hml, hown, hG⟩ (k_Mo_times l x5 x48) (aw_wS 2 hG gw_11_56 gw_11_54 gw_0_10 gw_11_55 rfl rfl hd_Mo_times ⟨Nat.le_of_ble_eq_true rfl, Nat.le_of_ble_eq_true rfl⟩) aw_p0 rfl rfl hl.1 rfl (lv_room (Nat.le_of_ble_eq_true rfl)) d_Mo_onFour_45 ⟨Nat.le_of_ble_eq_true rfl, Nat.le_of_ble_eq_true rfl⟩).run) (fun x49 hx49 => ?_)
      refine lv_istore_n hx hb d_Mo_onFour_48 rfl hl (by decide) rfl (fun ls hl => ?_)
      have hl : lv_has ls 12 [(3, .int x49), (0, .ref (aw_m ad 0)), (1, .long b), (4, .int x6), (5, .int x7), (6, .int x8), (7, .int (nI (6 * t)))] := hl
      refine lv_iload hx hb d_Mo_onFour_49 (lv_at hl 3 rfl) ?_
      refine lv_aload_n hx hb d_Mo_onFour_51 rfl (lv_at hl 1 rfl) ?_
      obtain ⟨x51, o52, hw53, he50⟩ := rd_M0 hSh
      refine va_get (C := R_Mo) (T := T_Mo) (N := 19) (v := .ref (aw_m ad 15)) hx hb hG in_Mo hown hK hP 67 he50 rfl 17 (by decide) (hG _ gw_9_42) (fun _ h => h) rfl d_Mo_onFour_52 ?_
      refine lv_iload hx hb d_Mo_onFour_55 (lv_at hl 6 rfl) ?_
      refine lv_iconst (v := nI 1) hx hb d_Mo_onFour_57 (by decide +kernel) ?_
      refine lv_iadd hx hb d_Mo_onFour_58 ?_
      refine aw_ti (nI_add (6 * t) 1) ?_
      obtain ⟨f55, he54⟩ := rd_M15 hSh
      refine aw_ild hx hb hK hP 82 0 he54 rfl (k := ((6 * t) + 1)) (by omega) (by decide) d_Mo_onFour_59 ?_
      refine lv_topi (fun x56 _ => ?_)
      refine lv_iadd hx hb d_Mo_onFour_60 ?_
      refine lv_topi (fun x57 _ => ?_)
      refine lv_ldc (v := 65535) hx hb hown (hG _ gw_11_36) d_Mo_onFour_61 ?_
      refine lv_iand hx hb d_Mo_onFour_63 ?_
      refine lv_topi (fun x58 _ => ?_)
      refine lv_istore hx hb d_Mo_onFour_64 hl (by decide) rfl (fun ls hl => ?_)
      have hl : lv_has ls 12 [(4, .int x58), (3, .int x49), (0, .ref (aw_m ad 0)), (1, .long b), (5, .int x7), (6, .int x8), (7, .int (nI (6 * t)))] := hl
      refine lv_iload hx hb d_Mo_onFour_66 (lv_at hl 4 rfl) ?_
      refine lv_aload_n hx hb d_Mo_onFour_68 rfl (lv_at hl 2 rfl) ?_
      obtain ⟨x60, o61, hw62, he59⟩ := rd_M0 hSh
      refine va_get (C := R_Mo) (T := T_Mo) (N := 19) (v := .ref (aw_m ad 15)) hx hb hG in_Mo hown hK hP 67 he59 rfl 17 (by decide) (hG _ gw_9_42) (fun _ h => h) rfl d_Mo_onFour_69 ?_
      refine lv_iload hx hb d_Mo_onFour_72 (lv_at hl 6 rfl) ?_
      refine lv_iconst (v := nI 2) hx hb d_Mo_onFour_74 (by decide +kernel) ?_
      refine lv_iadd hx hb d_Mo_onFour_75 ?_
      refine aw_ti (nI_add (6 * t) 2) ?_
      obtain ⟨f64, he63⟩ := rd_M15 hSh
      refine aw_ild hx hb hK hP 82 0 he63 rfl (k := ((6 * t) + 2)) (by omega) (by decide) d_Mo_onFour_76 ?_
      refine lv_topi (fun x65 _ => ?_)
      refine lv_iadd hx hb d_Mo_onFour_77 ?_
      refine lv_topi (fun x66 _ => ?_)
      refine lv_ldc (v := 65535) hx hb hown (hG _ gw_11_36) d_Mo_onFour_78 ?_
      refine lv_iand hx hb d_Mo_onFour_80 ?_
      refine lv_topi (fun x67 _ => ?_)
      refine lv_istore hx hb d_Mo_onFour_81 hl (by decide) rfl (fun ls hl => ?_)
      have hl : lv_has ls 12 [(5, .int x67), (4, .int x58), (3, .int x49), (0, .ref (aw_m ad 0)), (1, .long b), (6, .int x8), (7, .int (nI (6 * t)))] := hl
      refine lv_iload hx hb d_Mo_onFour_83 (lv_at hl 5 rfl) ?_
      refine lv_aload_n hx hb d_Mo_onFour_85 rfl (lv_at hl 3 rfl) ?_
      obtain ⟨x69, o70, hw71, he68⟩ := rd_M0 hSh
      refine va_get (C := R_Mo) (T := T_Mo) (N := 19) (v := .ref (aw_m ad 15)) hx hb hG in_Mo hown hK hP 67 he68 rfl 17 (by decide) (hG _ gw_9_42) (fun _ h => h) rfl d_Mo_onFour_86 ?_
      refine lv_iload hx hb d_Mo_onFour_89 (lv_at hl 6 rfl) ?_
      refine lv_iconst (v := nI 3) hx hb d_Mo_onFour_91 (by decide +kernel) ?_
      refine lv_iadd hx hb d_Mo_onFour_92 ?_
      refine aw_ti (nI_add (6 * t) 3) ?_
      obtain ⟨f73, he72⟩ := rd_M15 hSh
      refine aw_ild hx hb hK hP 82 0 he72 rfl (k := ((6 * t) + 3)) (by omega) (by decide) d_Mo_onFour_93 ?_
      refine lv_topi (fun x74 _ => ?_)
      refine aw_ci ((va_runS (As := [.int x8, .int x74]) (rest := []) ⟨hx, hb, hml, hown, hG⟩ (k_Mo_times l x8 x74) (aw_wS 2 hG gw_11_56 gw_11_54 gw_0_10 gw_11_55 rfl rfl hd_Mo_times ⟨Nat.le_of_ble_eq_true rfl, Nat.le_of_ble_eq_true rfl⟩) aw_p0 rfl rfl hl.1 rfl (lv_room (Nat.le_of_ble_eq_true rfl)) d_Mo_onFour_94 ⟨Nat.le_of_ble_eq_true rfl, Nat.le_of_ble_eq_true rfl⟩).run) (fun x75 hx75 => ?_)
      refine lv_istore hx hb d_Mo_onFour_97 hl (by decide) rfl (fun ls hl => ?_)
      have hl : lv_has ls 12 [(6, .int x75), (5, .int x67), (4, .int x58), (3, .int x49), (0, .ref (aw_m ad 0)), (1, .long b), (7, .int (nI (6 * t)))] := hl
      refine lv_iload_n hx hb d_Mo_onFour_99 rfl (lv_at hl 3 rfl) ?_
      refine lv_iload hx hb d_Mo_onFour_100 (lv_at hl 1 rfl) ?_
      refine lv_ixor hx hb d_Mo_onFour_102 ?_
      refine lv_topi (fun x76 _ => ?_)
      refine lv_aload_n hx hb d_Mo_onFour_103 rfl (lv_at hl 4 rfl) ?_
      obtain ⟨x78, o79, hw80, he77⟩ := rd_M0 hSh
      refine va_get (C := R_Mo) (T := T_Mo) (N := 19) (v := .ref (aw_m ad 15)) hx hb hG in_Mo hown hK hP 67 he77 rfl 17 (by decide) (hG _ gw_9_42) (fun _ h => h) rfl d_Mo_onFour_104 ?_
      refine lv_iload hx hb d_Mo_onFour_107 (lv_at hl 6 rfl) ?_
      refine lv_iconst (v := nI 4) hx hb d_Mo_onFour_109 (by decide +kernel) ?_
      refine lv_iadd hx hb d_Mo_onFour_110 ?_
      refine aw_ti (nI_add (6 * t) 4) ?_
      obtain ⟨f82, he81⟩ := rd_M15 hSh
      refine aw_ild hx hb hK hP 82 0 he81 rfl (k := ((6 * t) + 4)) (by omega) (by decide) d_Mo_onFour_111 ?_
      refine lv_topi (fun x83 _ => ?_)
      refine aw_ci ((va_runS (As := [.int x76, .int x83]) (rest := []) ⟨hx, hb, hml, hown, hG⟩ (k_Mo_times l x76 x83) (aw_wS 2 hG gw_11_56 gw_11_54 gw_0_10 gw_11_55 rfl rfl hd_Mo_times ⟨Nat.le_of_ble_eq_true rfl, Nat.le_of_ble_eq_true rfl⟩) aw_p0 rfl rfl hl.1 rfl (lv_room (Nat.le_of_ble_eq_true rfl)) d_Mo_onFour_112 ⟨Nat.le_of_ble_eq_true rfl, Nat.le_of_ble_eq_true rfl⟩).run) (fun x84 hx84 => ?_)
      refine lv_istore hx hb d_Mo_onFour_115 hl (by decide) rfl (fun ls hl => ?_)
      have hl : lv_has ls 12 [(8, .int x84), (6, .int x75), (5, .int x67), (4, .int x58), (3, .int x49), (0, .ref (aw_m ad 0)), (1, .long b), (7, .int (nI (6 * t)))] := hl
      refine lv_iload hx hb d_Mo_onFour_117 (lv_at hl 0 rfl) ?_
      refine lv_iload hx hb d_Mo_onFour_119 (lv_at hl 3 rfl) ?_
      refine lv_iload hx hb d_Mo_onFour_121 (lv_at hl 1 rfl) ?_
      refine lv_ixor hx hb d_Mo_onFour_123 ?_
      refine lv_topi (fun x85 _ => ?_)
      refine lv_iadd hx hb d_Mo_onFour_124 ?_
      refine lv_topi (fun x86 _ => ?_)
      refine lv_ldc (v := 65535) hx hb hown (hG _ gw_11_36) d_Mo_onFour_125 ?_
      refine lv_iand hx hb d_Mo_onFour_127 ?_
      refine lv_topi (fun x87 _ => ?_)
      refine lv_aload_n hx hb d_Mo_onFour_128 rfl (lv_at hl 5 rfl) ?_
      obtain ⟨x89, o90, hw91, he88⟩ := rd_M0 hSh
      refine va_get (C := R_Mo) (T := T_Mo) (N := 19) (v := .ref (aw_m ad 15)) hx hb hG in_Mo hown hK hP 67 he88 rfl 17 (by decide) (hG _ gw_9_42) (fun _ h => h) rfl d_Mo_onFour_129 ?_
      refine lv_iload hx hb d_Mo_onFour_132 (lv_at hl 7 rfl) ?_
      refine lv_iconst (v := nI 5) hx hb d_Mo_onFour_134 (by decide +kernel) ?_
      refine lv_iadd hx hb d_Mo_onFour_135 ?_
      refine aw_ti (nI_add (6 * t) 5) ?_
      obtain ⟨f93, he92⟩ := rd_M15 hSh
      refine aw_ild hx hb hK hP 82 0 he92 rfl (k := ((6 * t) + 5)) (by omega) (by decide) d_Mo_onFour_136 ?_
      refine lv_topi (fun x94 _ => ?_)
      refine aw_ci ((va_runS (As := [.int x87, .int x94]) (rest := []) ⟨hx, hb, hml, hown, hG⟩ (k_Mo_times l x87 x94) (aw_wS 2 hG gw_11_56 gw_11_54 gw_0_10 gw_11_55 rfl rfl hd_Mo_times ⟨Nat.le_of_ble_eq_true rfl, Nat.le_of_ble_eq_true rfl⟩) aw_p0 rfl rfl hl.1 rfl (lv_room (Nat.le_of_ble_eq_true rfl)) d_Mo_onFour_137 ⟨Nat.le_of_ble_eq_true rfl, Nat.le_of_ble_eq_true rfl⟩).run) (fun x95 hx95 => ?_)
      refine lv_istore hx hb d_Mo_onFour_140 hl (by decide) rfl (fun ls hl => ?_)
      have hl : lv_has ls 12 [(9, .int x95), (8, .int x84), (6, .int x75), (5, .int x67), (4, .int x58), (3, .int x49), (0, .ref (aw_m ad 0)), (1, .long b), (7, .int (nI (6 * t)))] := hl
      refine lv_iload hx hb d_Mo_onFour_142 (lv_at hl 1 rfl) ?_
      refine lv_iload hx hb d_Mo_onFour_144 (lv_at hl 0 rfl) ?_
      refine lv_iadd hx hb d_Mo_onFour_146 ?_
      refine lv_topi (fun x96 _ => ?_)
      refine lv_ldc (v := 65535) hx hb hown (hG _ gw_11_36) d_Mo_onFour_147 ?_
      refine lv_iand hx hb d_Mo_onFour_149 ?_
      refine lv_topi (fun x97 _ => ?_)
      refine lv_istore hx hb d_Mo_onFour_150 hl (by decide) rfl (fun ls hl => ?_)
      have hl : lv_has ls 12 [(10, .int x97), (9, .int x95), (8, .int x84), (6, .int x75), (5, .int x67), (4, .int x58), (3, .int x49), (0, .ref (aw_m ad 0)), (1, .long b), (7, .int (nI (6 * t)))] := hl
      refine lv_iload hx hb d_Mo_onFour_152 (lv_at hl 5 rfl) ?_
      refine lv_istore hx hb d_Mo_onFour_154 hl (by decide) rfl (fun ls hl => ?_)
      have hl : lv_has ls 12 [(11, .int x58), (10, .int x97), (9, .int x95), (8, .int x84), (6, .int x75), (5, .int x67), (4, .int x58), (3, .int x49), (0, .ref (aw_m ad 0)), (1, .long b), (7, .int (nI (6 * t)))] := hl
      refine lv_iload_n hx hb d_Mo_onFour_156 rfl (lv_at hl 7 rfl) ?_
      refine lv_iload hx hb d_Mo_onFour_157 (lv_at hl 2 rfl) ?_
      refine lv_ixor hx hb d_Mo_onFour_159 ?_
      refine lv_topi (fun x98 _ => ?_)
      refine lv_istore_n hx hb d_Mo_onFour_160 rfl hl (by decide) rfl (fun ls hl => ?_)
      have hl : lv_has ls 12 [(3, .int x98), (11, .int x58), (10, .int x97), (9, .int x95), (8, .int x84), (6, .int x75), (5, .int x67), (4, .int x58), (0, .ref (aw_m ad 0)), (1, .long b), (7, .int (nI (6 * t)))] := hl
      refine lv_iload hx hb d_Mo_onFour_161 (lv_at hl 6 rfl) ?_
      refine lv_iload hx hb d_Mo_onFour_163 (lv_at hl 3 rfl) ?_
      refine lv_ixor hx hb d_Mo_onFour_165 ?_
      refine lv_topi (fun x99 _ => ?_)
      refine lv_istore hx hb d_Mo_onFour_166 hl (by decide) rfl (fun ls hl => ?_)
      have hl : lv_has ls 12 [(4, .int x99), (3, .int x98), (11, .int x58), (10, .int x97), (9, .int x95), (8, .int x84), (6, .int x75), (5, .int x67), (0, .ref (aw_m ad 0)), (1, .long b), (7, .int (nI (6 * t)))] := hl
      refine lv_iload hx hb d_Mo_onFour_168 (lv_at hl 2 rfl) ?_
      refine lv_iload hx hb d_Mo_onFour_170 (lv_at hl 3 rfl) ?_
      refine lv_ixor hx hb d_Mo_onFour_172 ?_
      refine lv_topi (fun x100 _ => ?_)
      refine lv_istore hx hb d_Mo_onFour_173 hl (by decide) rfl (fun ls hl => ?_)
      have hl : lv_has ls 12 [(5, .int x100), (4, .int x99), (3, .int x98), (11, .int x58), (10, .int x97), (9, .int x95), (8, .int x84), (6, .int x75), (0, .ref (aw_m ad 0)), (1, .long b), (7, .int (nI (6 * t)))] := hl
      refine lv_iload hx hb d_Mo_onFour_175 (lv_at hl 7 rfl) ?_
      refine lv_iload hx hb d_Mo_onFour_177 (lv_at hl 4 rfl) ?_
      refine lv_ixor hx hb d_Mo_onFour_179 ?_
      refine lv_topi (fun x101 _ => ?_)
      refine lv_istore hx hb d_Mo_onFour_180 hl (by decide) rfl (fun ls hl => ?_)
      have hl : lv_has ls 12 [(6, .int x101), (5, .int x100), (4, .int x99), (3, .int x98), (11, .int x58), (10, .int x97), (9, .int x95), (8, .int x84), (0, .ref (aw_m ad 0)), (1, .long b), (7, .int (nI (6 * t)))] := hl
      refine lv_iinc (k := 10) (v := nI (6 * t + 6)) hx hb d_Mo_onFour_182 hl rfl (aw_inc (6 * t) 6 6 (by decide +kernel)) (by decide) rfl (fun ls hl => ?_)
      have hl : lv_has ls 12 [(7, .int (nI (6 * t + 6))), (6, .int x101), (5, .int x100), (4, .int x99), (3, .int x98), (11, .int x58), (10, .int x97), (9, .int x95), (8, .int x84), (0, .ref (aw_m ad 0)), (1, .long b)] := hl
      refine lv_goto (tgt := 30) hx hb d_Mo_onFour_185 (by decide) ?_
      have hl := lv_sub hl (l' := [(0, .ref (aw_m ad 0)), (1, .long b), (3, .int x98), (4, .int x99), (5, .int x100), (6, .int x101), (7, .int (nI (6 * t + 6)))]) [9, 10, 4, 3, 2, 1, 0] rfl
      exact ih (t + 1) x98 x99 x100 x101 H locs L ls (by omega) hP hD hSh hS (by first | exact hl | simpa [Nat.add_assoc, Nat.mul_add, Nat.add_comm] using hl)
  have hl := lv_sub hl (l' := [(0, .ref (aw_m ad 0)), (1, .long b), (3, .int x1), (4, .int x2), (5, .int x3), (6, .int x4), (7, .int (nI 0))]) [5, 6, 4, 3, 2, 1, 0] rfl
  exact L30 8 0 x1 x2 x3 x4 _ _ _ ls (by omega) hP hD hSh hS (by first | exact hl | simpa using hl)
abbrev ws_Mo_offFour : List Cond := Cond.code y_Mo_offFour b_Mo_offFour 12 (some .long) :: aw_G
abbrev rm_Mo_offFour : Room := { frames := 2, cells := 0, slots := 0, locals := 47 }
set_option maxHeartbeats 4000000 in
set_option maxRecDepth 100000 in
theorem k_Mo_offFour (l : Launch) (D : va_G) (g : Nat → ClassId) (ad : Nat → Nat) (G M : Nat → Nat × Nat) (F : Int32) (N0 : Nat) (b : Int64) : Met l y_Mo_offFour ws_Mo_offFour rm_Mo_offFour (va_Pc ([.ref (aw_m ad 0), .long b] : List Value) (aw_B D g ad G M F N0)) (va_Ql (fun r (_ : Unit) => True) (fun (_ : Unit) t => aw_H D g ad G M F N0 t.heap) (aw_Z N0)) 0 0 (aw_Z N0) := by
  refine Met.ofW (cc := b_Mo_offFour) (maxL := 12) (ret := (some .long)) (by decide) rfl ?_
  intro p e s m args below meth c s₁ B hml hv
  obtain ⟨rfl, ⟨L, hP, hD, hSh⟩, hU⟩ := hv
  have hx := B.exec
  have hb := B.bytes
  have hr := B.returns
  have hG : ∀ w ∈ aw_G, w.before _ s = true := fun w h => atoms_spec (ws := ws_Mo_offFour) B.pre w (List.mem_cons_of_mem _ h)
  have hown : s.vm.findClass "RuleCiphersModel" = some m.cls := findClass_of_methodNamed B.named
  have hlocks := B.notSynchronized
  have hE := hU.1
  have hK := hE.1
  have hN := hE.2.1
  have hS : va_S (aw_Z N0) s.heap s.heap [] := va_S.rf
  have hl := lv_entry ([.ref (aw_m ad 0), .long b] : List Value) (n := 12) (Nat.le_of_ble_eq_true rfl)
  rw [lg_entry_eq]
  generalize (lg_sl ([.ref (aw_m ad 0), .long b] : List Value) ++ List.replicate (12 - (lg_sl ([.ref (aw_m ad 0), .long b] : List Value)).length) Slot.unset).toArray = ls at hl ⊢
  have hl : lv_has ls 12 [(0, .ref (aw_m ad 0)), (1, .long b)] := hl
  refine lv_lload_n hx hb d_Mo_offFour_0 rfl (lv_at hl 1 rfl) ?_
  refine lv_iconst (v := nI 0) hx hb d_Mo_offFour_1 (by decide +kernel) ?_
  refine aw_ci ((va_runS (As := [.long b, .int (nI 0)]) (rest := []) ⟨hx, hb, hml, hown, hG⟩ (k_Mo_part l b (nI 0)) (aw_wS 2 hG gw_11_50 gw_11_48 gw_0_10 gw_11_49 rfl rfl hd_Mo_part ⟨Nat.le_of_ble_eq_true rfl, Nat.le_of_ble_eq_true rfl⟩) aw_p0 rfl rfl hl.1 rfl (lv_room (Nat.le_of_ble_eq_true rfl)) d_Mo_offFour_2 ⟨Nat.le_of_ble_eq_true rfl, Nat.le_of_ble_eq_true rfl⟩).run) (fun x1 hx1 => ?_)
  refine lv_aload_n hx hb d_Mo_offFour_5 rfl (lv_at hl 0 rfl) ?_
  obtain ⟨x3, o4, hw5, he2⟩ := rd_M0 hSh
  refine va_get (C := R_Mo) (T := T_Mo) (N := 19) (v := .ref (aw_m ad 15)) hx hb hG in_Mo hown hK hP 67 he2 rfl 17 (by decide) (hG _ gw_9_42) (fun _ h => h) rfl d_Mo_offFour_6 ?_
  refine lv_bipush (v := nI 48) hx hb d_Mo_offFour_9 (by decide +kernel) ?_
  obtain ⟨f7, he6⟩ := rd_M15 hSh
  refine aw_ild hx hb hK hP 82 0 he6 rfl (k := 48) (by omega) (by decide) d_Mo_offFour_11 ?_
  refine lv_topi (fun x8 _ => ?_)
  refine aw_ci ((va_runS (As := [.int x8]) (rest := [.int x1]) ⟨hx, hb, hml, hown, hG⟩ (k_Mo_inverse l x8) (aw_wS 1 hG gw_11_53 gw_11_51 gw_0_10 gw_11_52 rfl rfl hd_Mo_inverse ⟨Nat.le_of_ble_eq_true rfl, Nat.le_of_ble_eq_true rfl⟩) aw_p0 rfl rfl hl.1 rfl (lv_room (Nat.le_of_ble_eq_true rfl)) d_Mo_offFour_12 ⟨Nat.le_of_ble_eq_true rfl, Nat.le_of_ble_eq_true rfl⟩).run) (fun x9 hx9 => ?_)
  refine aw_ci ((va_runS (As := [.int x1, .int x9]) (rest := []) ⟨hx, hb, hml, hown, hG⟩ (k_Mo_times l x1 x9) (aw_wS 2 hG gw_11_56 gw_11_54 gw_0_10 gw_11_55 rfl rfl hd_Mo_times ⟨Nat.le_of_ble_eq_true rfl, Nat.le_of_ble_eq_true rfl⟩) aw_p0 rfl rfl hl.1 rfl (lv_room (Nat.le_of_ble_eq_true rfl)) d_Mo_offFour_15 ⟨Nat.le_of_ble_eq_true rfl, Nat.le_of_ble_eq_true rfl⟩).run) (fun x10 hx10 => ?_)
  refine lv_istore_n hx hb d_Mo_offFour_18 rfl hl (by decide) rfl (fun ls hl => ?_)
  have hl : lv_has ls 12 [(3, .int x10), (0, .ref (aw_m ad 0)), (1, .long b)] := hl
  refine lv_lload_n hx hb d_Mo_offFour_19 rfl (lv_at hl 2 rfl) ?_
  refine lv_iconst (v := nI 2) hx hb d_Mo_offFour_20 (by decide +kernel) ?_
  refine aw_ci ((va_runS (As := [.long b, .int (nI 2)]) (rest := []) ⟨hx, hb, hml, hown, hG⟩ (k_Mo_part l b (nI 2)) (aw_wS 2 hG gw_11_50 gw_11_48 gw_0_10 gw_11_49 rfl rfl hd_Mo_part ⟨Nat.le_of_ble_eq_true rfl, Nat.le_of_ble_eq_true rfl⟩) aw_p0 rfl rfl hl.1 rfl (lv_room (Nat.le_of_ble_eq_true rfl)) d_Mo_offFour_21 ⟨Nat.le_of_ble_eq_true rfl, Nat.le_of_ble_eq_true rfl⟩).run) (fun x11 hx11 => ?_)
  refine lv_aload_n hx hb d_Mo_offFour_24 rfl (lv_at hl 1 rfl) ?_
  obtain ⟨x13, o14, hw15, he12⟩ := rd_M0 hSh
  refine va_get (C := R_Mo) (T := T_Mo) (N := 19) (v := .ref (aw_m ad 15)) hx hb hG in_Mo hown hK hP 67 he12 rfl 17 (by decide) (hG _ gw_9_42) (fun _ h => h) rfl d_Mo_offFour_25 ?_
  refine lv_bipush (v := nI 50) hx hb d_Mo_offFour_28 (by decide +kernel) ?_
  obtain ⟨f17, he16⟩ := rd_M15 hSh
  refine aw_ild hx hb hK hP 82 0 he16 rfl (k := 50) (by omega) (by decide) d_Mo_offFour_30 ?_
  refine lv_topi (fun x18 _ => ?_)
  refine lv_isub hx hb d_Mo_offFour_31 ?_
  refine lv_topi (fun x19 _ => ?_)
  refine lv_ldc (v := 65535) hx hb hown (hG _ gw_11_36) d_Mo_offFour_32 ?_
  refine lv_iand hx hb d_Mo_offFour_34 ?_
  refine lv_topi (fun x20 _ => ?_)
  refine lv_istore hx hb d_Mo_offFour_35 hl (by decide) rfl (fun ls hl => ?_)
  have hl : lv_has ls 12 [(4, .int x20), (3, .int x10), (0, .ref (aw_m ad 0)), (1, .long b)] := hl
  refine lv_lload_n hx hb d_Mo_offFour_37 rfl (lv_at hl 3 rfl) ?_
  refine lv_iconst (v := nI 1) hx hb d_Mo_offFour_38 (by decide +kernel) ?_
  refine aw_ci ((va_runS (As := [.long b, .int (nI 1)]) (rest := []) ⟨hx, hb, hml, hown, hG⟩ (k_Mo_part l b (nI 1)) (aw_wS 2 hG gw_11_50 gw_11_48 gw_0_10 gw_11_49 rfl rfl hd_Mo_part ⟨Nat.le_of_ble_eq_true rfl, Nat.le_of_ble_eq_true rfl⟩) aw_p0 rfl rfl hl.1 rfl (lv_room (Nat.le_of_ble_eq_true rfl)) d_Mo_offFour_39 ⟨Nat.le_of_ble_eq_true rfl, Nat.le_of_ble_eq_true rfl⟩).run) (fun x21 hx21 => ?_)
  refine lv_aload_n hx hb d_Mo_offFour_42 rfl (lv_at hl 2 rfl) ?_
  obtain ⟨x23, o24, hw25, he22⟩ := rd_M0 hSh
  refine va_get (C := R_Mo) (T := T_Mo) (N := 19) (v := .ref (aw_m ad 15)) hx hb hG in_Mo hown hK hP 67 he22 rfl 17 (by decide) (hG _ gw_9_42) (fun _ h => h) rfl d_Mo_offFour_43 ?_
  refine lv_bipush (v := nI 49) hx hb d_Mo_offFour_46 (by decide +kernel) ?_
  obtain ⟨f27, he26⟩ := rd_M15 hSh
  refine aw_ild hx hb hK hP 82 0 he26 rfl (k := 49) (by omega) (by decide) d_Mo_offFour_48 ?_
  refine lv_topi (fun x28 _ => ?_)
  refine lv_isub hx hb d_Mo_offFour_49 ?_
  refine lv_topi (fun x29 _ => ?_)
  refine lv_ldc (v := 65535) hx hb hown (hG _ gw_11_36) d_Mo_offFour_50 ?_
  refine lv_iand hx hb d_Mo_offFour_52 ?_
  refine lv_topi (fun x30 _ => ?_)
  refine lv_istore hx hb d_Mo_offFour_53 hl (by decide) rfl (fun ls hl => ?_)
  have hl : lv_has ls 12 [(5, .int x30), (4, .int x20), (3, .int x10), (0, .ref (aw_m ad 0)), (1, .long b)] := hl
  refine lv_lload_n hx hb d_Mo_offFour_55 rfl (lv_at hl 4 rfl) ?_
  refine lv_iconst (v := nI 3) hx hb d_Mo_offFour_56 (by decide +kernel) ?_
  refine aw_ci ((va_runS (As := [.long b, .int (nI 3)]) (rest := []) ⟨hx, hb, hml, hown, hG⟩ (k_Mo_part l b (nI 3)) (aw_wS 2 hG gw_11_50 gw_11_48 gw_0_10 gw_11_49 rfl rfl hd_Mo_part ⟨Nat.le_of_ble_eq_true rfl, Nat.le_of_ble_eq_true rfl⟩) aw_p0 rfl rfl hl.1 rfl (lv_room (Nat.le_of_ble_eq_true rfl)) d_Mo_offFour_57 ⟨Nat.le_of_ble_eq_true rfl, Nat.le_of_ble_eq_true rfl⟩).run) (fun x31 hx31 => ?_)
  refine lv_aload_n hx hb d_Mo_offFour_60 rfl (lv_at hl 3 rfl) ?_
  obtain ⟨x33, o34, hw35, he32⟩ := rd_M0 hSh
  refine va_get (C := R_Mo) (T := T_Mo) (N := 19) (v := .ref (aw_m ad 15)) hx hb hG in_Mo hown hK hP 67 he32 rfl 17 (by decide) (hG _ gw_9_42) (fun _ h => h) rfl d_Mo_offFour_61 ?_
  refine lv_bipush (v := nI 51) hx hb d_Mo_offFour_64 (by decide +kernel) ?_
  obtain ⟨f37, he36⟩ := rd_M15 hSh
  refine aw_ild hx hb hK hP 82 0 he36 rfl (k := 51) (by omega) (by decide) d_Mo_offFour_66 ?_
  refine lv_topi (fun x38 _ => ?_)
  refine aw_ci ((va_runS (As := [.int x38]) (rest := [.int x31]) ⟨hx, hb, hml, hown, hG⟩ (k_Mo_inverse l x38) (aw_wS 1 hG gw_11_53 gw_11_51 gw_0_10 gw_11_52 rfl rfl hd_Mo_inverse ⟨Nat.le_of_ble_eq_true rfl, Nat.le_of_ble_eq_true rfl⟩) aw_p0 rfl rfl hl.1 rfl (lv_room (Nat.le_of_ble_eq_true rfl)) d_Mo_offFour_67 ⟨Nat.le_of_ble_eq_true rfl, Nat.le_of_ble_eq_true rfl⟩).run) (fun x39 hx39 => ?_)
  refine aw_ci ((va_runS (As := [.int x31, .int x39]) (rest := []) ⟨hx, hb, hml, hown, hG⟩ (k_Mo_times l x31 x39) (aw_wS 2 hG gw_11_56 gw_11_54 gw_0_10 gw_11_55 rfl rfl hd_Mo_times ⟨Nat.le_of_ble_eq_true rfl, Nat.le_of_ble_eq_true rfl⟩) aw_p0 rfl rfl hl.1 rfl (lv_room (Nat.le_of_ble_eq_true rfl)) d_Mo_offFour_70 ⟨Nat.le_of_ble_eq_true rfl, Nat.le_of_ble_eq_true rfl⟩).run) (fun x40 hx40 => ?_)
  refine lv_istore hx hb d_Mo_offFour_73 hl (by decide) rfl (fun ls hl => ?_)
  have hl : lv_has ls 12 [(6, .int x40), (5, .int x30), (4, .int x20), (3, .int x10), (0, .ref (aw_m ad 0)), (1, .long b)] := hl
  refine lv_bipush (v := nI 42) hx hb d_Mo_offFour_75 (by decide +kernel) ?_
  refine lv_istore hx hb d_Mo_offFour_77 hl (by decide) rfl (fun ls hl => ?_)
  have hl : lv_has ls 12 [(7, .int (nI 42)), (6, .int x40), (5, .int x30), (4, .int x20), (3, .int x10), (0, .ref (aw_m ad 0)), (1, .long b)] := hl
  have L79 : ∀ (d t : Nat) (x41 : Int32) (x42 : Int32) (x43 : Int32) (x44 : Int32) (H : Heap) (locs : List Loc) (L : va_W) (ls : Array Slot), t + d = 8 → va_P D aw_C L H → va_D (aw_Z N0) L → aw_Sh g ad G M F L → va_S (aw_Z N0) s.heap H locs → lv_has ls 12 [(0, .ref (aw_m ad 0)), (1, .long b), (3, .int x41), (4, .int x42), (5, .int x43), (6, .int x44), (7, .int (aw_d6 d))] → W p l e (headSpec ws_Mo_offFour rm_Mo_offFour).room s m ([.ref (aw_m ad 0), .long b] : List Value).toArray below meth c H locs 0 0 (MQ below (va_Ql (fun r (_ : Unit) => True) (fun (_ : Unit) t => aw_H D g ad G M F N0 t.heap) (aw_Z N0)) ([.ref (aw_m ad 0), .long b] : List Value).toArray s 0 0 (aw_Z N0)) (F0 m 79 ls []) := by
    clear hP hD hSh hS
    clear hl
    intro d
    induction d with
    | zero => 
      intro t x41 x42 x43 x44 H locs L ls ht0 hP hD hSh hS hl
      have hl : lv_has ls 12 [(0, .ref (aw_m ad 0)), (1, .long b), (3, .int x41), (4, .int x42), (5, .int x43), (6, .int x44), (7, .int (aw_d6 0))] := hl
      refine lv_iload hx hb d_Mo_offFour_79 (lv_at hl 6 rfl) ?_
      refine lv_if_lt (tgt := 227) hx hb d_Mo_offFour_81 (by decide) (fun _ => ?_) (fun h => absurd (by decide +kernel) h)
      refine lv_iload_n hx hb d_Mo_offFour_227 rfl (lv_at hl 2 rfl) ?_
      refine lv_iload hx hb d_Mo_offFour_228 (lv_at hl 3 rfl) ?_
      refine lv_iload hx hb d_Mo_offFour_230 (lv_at hl 4 rfl) ?_
      refine lv_iload hx hb d_Mo_offFour_232 (lv_at hl 5 rfl) ?_
      refine aw_cl ((va_runS (As := [.int x41, .int x42, .int x43, .int x44]) (rest := []) ⟨hx, hb, hml, hown, hG⟩ (k_Mo_four l x41 x42 x43 x44) (aw_wS 4 hG gw_12_1 gw_11_59 gw_0_10 gw_12_0 rfl rfl hd_Mo_four ⟨Nat.le_of_ble_eq_true rfl, Nat.le_of_ble_eq_true rfl⟩) aw_p0 rfl rfl hl.1 rfl (lv_room (Nat.le_of_ble_eq_true rfl)) d_Mo_offFour_234 ⟨Nat.le_of_ble_eq_true rfl, Nat.le_of_ble_eq_true rfl⟩).run) (fun y45 hy45 => ?_)
      exact W.lret hx hb hr (fun t ht hW => ⟨⟨_, (), rfl, trivial, aw_Hr ht hP hD hSh⟩, hS.F ht⟩) hS.2.2 d_Mo_offFour_237
    | succ d ih => 
      intro t x41 x42 x43 x44 H locs L ls ht0 hP hD hSh hS hl
      have hl : lv_has ls 12 [(0, .ref (aw_m ad 0)), (1, .long b), (3, .int x41), (4, .int x42), (5, .int x43), (6, .int x44), (7, .int (nI (6 * d)))] := hl
      refine lv_iload hx hb d_Mo_offFour_79 (lv_at hl 6 rfl) ?_
      refine lv_if_lt (tgt := 227) hx hb d_Mo_offFour_81 (by decide) (fun h => absurd h (show ¬ nI (6 * d) < nI 0 from fun h9 => absurd ((nI_ltI (by omega) (by omega)).mp h9) (by omega))) (fun _ => ?_)
      refine lv_iload_n hx hb d_Mo_offFour_84 rfl (lv_at hl 2 rfl) ?_
      refine lv_iload hx hb d_Mo_offFour_85 (lv_at hl 3 rfl) ?_
      refine lv_ixor hx hb d_Mo_offFour_87 ?_
      refine lv_topi (fun x46 _ => ?_)
      refine lv_aload_n hx hb d_Mo_offFour_88 rfl (lv_at hl 0 rfl) ?_
      obtain ⟨x48, o49, hw50, he47⟩ := rd_M0 hSh
      refine va_get (C := R_Mo) (T := T_Mo) (N := 19) (v := .ref (aw_m ad 15)) hx hb hG in_Mo hown hK hP 67 he47 rfl 17 (by decide) (hG _ gw_9_42) (fun _ h => h) rfl d_Mo_offFour_89 ?_
      refine lv_iload hx hb d_Mo_offFour_92 (lv_at hl 6 rfl) ?_
      refine lv_iconst (v := nI 4) hx hb d_Mo_offFour_94 (by decide +kernel) ?_
      refine lv_iadd hx hb d_Mo_offFour_95 ?_
      refine aw_ti (nI_add (6 * d) 4) ?_
      obtain ⟨f52, he51⟩ := rd_M15 hSh
      refine aw_ild hx hb hK hP 82 0 he51 rfl (k := ((6 * d) + 4)) (by omega) (by decide) d_Mo_offFour_96 ?_
      refine lv_topi (fun x53 _ => ?_)
      refine aw_ci ((va_runS (As := [.int x46, .int x53]) (rest := []) ⟨hx, hb, hml, hown, hG⟩ (k_Mo_times l x46 x53) (aw_wS 2 hG gw_11_56 gw_11_54 gw_0_10 gw_11_55 rfl rfl hd_Mo_times ⟨Nat.le_of_ble_eq_true rfl, Nat.le_of_ble_eq_true rfl⟩) aw_p0 rfl rfl hl.1 rfl (lv_room (Nat.le_of_ble_eq_true rfl)) d_Mo_offFour_97 ⟨Nat.le_of_ble_eq_true rfl, Nat.le_of_ble_eq_true rfl⟩).run) (fun x54 hx54 => ?_)
      refine lv_istore hx hb d_Mo_offFour_100 hl (by decide) rfl (fun ls hl => ?_)
      have hl : lv_has ls 12 [(8, .int x54), (0, .ref (aw_m ad 0)), (1, .long b), (3, .int x41), (4, .int x42), (5, .int x43), (6, .int x44), (7, .int (nI (6 * d)))] := hl
      refine lv_iload hx hb d_Mo_offFour_102 (lv_at hl 0 rfl) ?_
      refine lv_iload hx hb d_Mo_offFour_104 (lv_at hl 5 rfl) ?_
      refine lv_iload hx hb d_Mo_offFour_106 (lv_at hl 6 rfl) ?_
      refine lv_ixor hx hb d_Mo_offFour_108 ?_
      refine lv_topi (fun x55 _ => ?_)
      refine lv_iadd hx hb d_Mo_offFour_109 ?_
      refine lv_topi (fun x56 _ => ?_)
      refine lv_ldc (v := 65535) hx hb hown (hG _ gw_11_36) d_Mo_offFour_110 ?_
      refine lv_iand hx hb d_Mo_offFour_112 ?_
      refine lv_topi (fun x57 _ => ?_)
      refine lv_aload_n hx hb d_Mo_offFour_113 rfl (lv_at hl 1 rfl) ?_
      obtain ⟨x59, o60, hw61, he58⟩ := rd_M0 hSh
      refine va_get (C := R_Mo) (T := T_Mo) (N := 19) (v := .ref (aw_m ad 15)) hx hb hG in_Mo hown hK hP 67 he58 rfl 17 (by decide) (hG _ gw_9_42) (fun _ h => h) rfl d_Mo_offFour_114 ?_
      refine lv_iload hx hb d_Mo_offFour_117 (lv_at hl 7 rfl) ?_
      refine lv_iconst (v := nI 5) hx hb d_Mo_offFour_119 (by decide +kernel) ?_
      refine lv_iadd hx hb d_Mo_offFour_120 ?_
      refine aw_ti (nI_add (6 * d) 5) ?_
      obtain ⟨f63, he62⟩ := rd_M15 hSh
      refine aw_ild hx hb hK hP 82 0 he62 rfl (k := ((6 * d) + 5)) (by omega) (by decide) d_Mo_offFour_121 ?_
      refine lv_topi (fun x64 _ => ?_)
      refine aw_ci ((va_runS (As := [.int x57, .int x64]) (rest := []) ⟨hx, hb, hml, hown, hG⟩ (k_Mo_times l x57 x64) (aw_wS 2 hG gw_11_56 gw_11_54 gw_0_10 gw_11_55 rfl rfl hd_Mo_times ⟨Nat.le_of_ble_eq_true rfl, Nat.le_of_ble_eq_true rfl⟩) aw_p0 rfl rfl hl.1 rfl (lv_room (Nat.le_of_ble_eq_true rfl)) d_Mo_offFour_122 ⟨Nat.le_of_ble_eq_true rfl, Nat.le_of_ble_eq_true rfl⟩).run) (fun x65 hx65 => ?_)
      refine lv_istore hx hb d_Mo_offFour_125 hl (by decide) rfl (fun ls hl => ?_)
      have hl : lv_has ls 12 [(9, .int x65), (8, .int x54), (0, .ref (aw_m ad 0)), (1, .long b), (3, .int x41), (4, .int x42), (5, .int x43), (6, .int x44), (7, .int (nI (6 * d)))] := hl
      refine lv_iload hx hb d_Mo_offFour_127 (lv_at hl 1 rfl) ?_
      refine lv_iload hx hb d_Mo_offFour_129 (lv_at hl 0 rfl) ?_
      refine lv_iadd hx hb d_Mo_offFour_131 ?_
      refine lv_topi (fun x66 _ => ?_)
      refine lv_ldc (v := 65535) hx hb hown (hG _ gw_11_36) d_Mo_offFour_132 ?_
      refine lv_iand hx hb d_Mo_offFour_134 ?_
      refine lv_topi (fun x67 _ => ?_)
      refine lv_istore hx hb d_Mo_offFour_135 hl (by decide) rfl (fun ls hl => ?_)
      have hl : lv_has ls 12 [(10, .int x67), (9, .int x65), (8, .int x54), (0, .ref (aw_m ad 0)), (1, .long b), (3, .int x41), (4, .int x42), (5, .int x43), (6, .int x44), (7, .int (nI (6 * d)))] := hl
      refine lv_iload hx hb d_Mo_offFour_137 (lv_at hl 6 rfl) ?_
      refine lv_istore hx hb d_Mo_offFour_139 hl (by decide) rfl (fun ls hl => ?_)
      have hl : lv_has ls 12 [(11, .int x42), (10, .int x67), (9, .int x65), (8, .int x54), (0, .ref (aw_m ad 0)), (1, .long b), (3, .int x41), (4, .int x42), (5, .int x43), (6, .int x44), (7, .int (nI (6 * d)))] := hl
      refine lv_iload_n hx hb d_Mo_offFour_141 rfl (lv_at hl 6 rfl) ?_
      refine lv_iload hx hb d_Mo_offFour_142 (lv_at hl 2 rfl) ?_
      refine lv_ixor hx hb d_Mo_offFour_144 ?_
      refine lv_topi (fun x68 _ => ?_)
      refine lv_aload_n hx hb d_Mo_offFour_145 rfl (lv_at hl 4 rfl) ?_
      obtain ⟨x70, o71, hw72, he69⟩ := rd_M0 hSh
      refine va_get (C := R_Mo) (T := T_Mo) (N := 19) (v := .ref (aw_m ad 15)) hx hb hG in_Mo hown hK hP 67 he69 rfl 17 (by decide) (hG _ gw_9_42) (fun _ h => h) rfl d_Mo_offFour_146 ?_
      refine lv_iload hx hb d_Mo_offFour_149 (lv_at hl 10 rfl) ?_
      obtain ⟨f74, he73⟩ := rd_M15 hSh
      refine aw_ild hx hb hK hP 82 0 he73 rfl (k := (6 * d)) (by omega) (by decide) d_Mo_offFour_151 ?_
      refine lv_topi (fun x75 _ => ?_)
      refine aw_ci ((va_runS (As := [.int x75]) (rest := [.int x68]) ⟨hx, hb, hml, hown, hG⟩ (k_Mo_inverse l x75) (aw_wS 1 hG gw_11_53 gw_11_51 gw_0_10 gw_11_52 rfl rfl hd_Mo_inverse ⟨Nat.le_of_ble_eq_true rfl, Nat.le_of_ble_eq_true rfl⟩) aw_p0 rfl rfl hl.1 rfl (lv_room (Nat.le_of_ble_eq_true rfl)) d_Mo_offFour_152 ⟨Nat.le_of_ble_eq_true rfl, Nat.le_of_ble_eq_true rfl⟩).run) (fun x76 hx76 => ?_)
      refine aw_ci ((va_runS (As := [.int x68, .int x76]) (rest := []) ⟨hx, hb, hml, hown, hG⟩ (k_Mo_times l x68 x76) (aw_wS 2 hG gw_11_56 gw_11_54 gw_0_10 gw_11_55 rfl rfl hd_Mo_times ⟨Nat.le_of_ble_eq_true rfl, Nat.le_of_ble_eq_true rfl⟩) aw_p0 rfl rfl hl.1 rfl (lv_room (Nat.le_of_ble_eq_true rfl)) d_Mo_offFour_155 ⟨Nat.le_of_ble_eq_true rfl, Nat.le_of_ble_eq_true rfl⟩).run) (fun x77 hx77 => ?_)
      refine lv_istore_n hx hb d_Mo_offFour_158 rfl hl (by decide) rfl (fun ls hl => ?_)
      have hl : lv_has ls 12 [(3, .int x77), (11, .int x42), (10, .int x67), (9, .int x65), (8, .int x54), (0, .ref (aw_m ad 0)), (1, .long b), (4, .int x42), (5, .int x43), (6, .int x44), (7, .int (nI (6 * d)))] := hl
      refine lv_iload hx hb d_Mo_offFour_159 (lv_at hl 8 rfl) ?_
      refine lv_iload hx hb d_Mo_offFour_161 (lv_at hl 2 rfl) ?_
      refine lv_ixor hx hb d_Mo_offFour_163 ?_
      refine lv_topi (fun x78 _ => ?_)
      refine lv_aload_n hx hb d_Mo_offFour_164 rfl (lv_at hl 5 rfl) ?_
      obtain ⟨x80, o81, hw82, he79⟩ := rd_M0 hSh
      refine va_get (C := R_Mo) (T := T_Mo) (N := 19) (v := .ref (aw_m ad 15)) hx hb hG in_Mo hown hK hP 67 he79 rfl 17 (by decide) (hG _ gw_9_42) (fun _ h => h) rfl d_Mo_offFour_165 ?_
      refine lv_iload hx hb d_Mo_offFour_168 (lv_at hl 10 rfl) ?_
      refine lv_iconst (v := nI 1) hx hb d_Mo_offFour_170 (by decide +kernel) ?_
      refine lv_iadd hx hb d_Mo_offFour_171 ?_
      refine aw_ti (nI_add (6 * d) 1) ?_
      obtain ⟨f84, he83⟩ := rd_M15 hSh
      refine aw_ild hx hb hK hP 82 0 he83 rfl (k := ((6 * d) + 1)) (by omega) (by decide) d_Mo_offFour_172 ?_
      refine lv_topi (fun x85 _ => ?_)
      refine lv_isub hx hb d_Mo_offFour_173 ?_
      refine lv_topi (fun x86 _ => ?_)
      refine lv_ldc (v := 65535) hx hb hown (hG _ gw_11_36) d_Mo_offFour_174 ?_
      refine lv_iand hx hb d_Mo_offFour_176 ?_
      refine lv_topi (fun x87 _ => ?_)
      refine lv_istore hx hb d_Mo_offFour_177 hl (by decide) rfl (fun ls hl => ?_)
      have hl : lv_has ls 12 [(4, .int x87), (3, .int x77), (11, .int x42), (10, .int x67), (9, .int x65), (8, .int x54), (0, .ref (aw_m ad 0)), (1, .long b), (5, .int x43), (6, .int x44), (7, .int (nI (6 * d)))] := hl
      refine lv_iload hx hb d_Mo_offFour_179 (lv_at hl 2 rfl) ?_
      refine lv_iload hx hb d_Mo_offFour_181 (lv_at hl 4 rfl) ?_
      refine lv_ixor hx hb d_Mo_offFour_183 ?_
      refine lv_topi (fun x88 _ => ?_)
      refine lv_aload_n hx hb d_Mo_offFour_184 rfl (lv_at hl 6 rfl) ?_
      obtain ⟨x90, o91, hw92, he89⟩ := rd_M0 hSh
      refine va_get (C := R_Mo) (T := T_Mo) (N := 19) (v := .ref (aw_m ad 15)) hx hb hG in_Mo hown hK hP 67 he89 rfl 17 (by decide) (hG _ gw_9_42) (fun _ h => h) rfl d_Mo_offFour_185 ?_
      refine lv_iload hx hb d_Mo_offFour_188 (lv_at hl 10 rfl) ?_
      refine lv_iconst (v := nI 2) hx hb d_Mo_offFour_190 (by decide +kernel) ?_
      refine lv_iadd hx hb d_Mo_offFour_191 ?_
      refine aw_ti (nI_add (6 * d) 2) ?_
      obtain ⟨f94, he93⟩ := rd_M15 hSh
      refine aw_ild hx hb hK hP 82 0 he93 rfl (k := ((6 * d) + 2)) (by omega) (by decide) d_Mo_offFour_192 ?_
      refine lv_topi (fun x95 _ => ?_)
      refine lv_isub hx hb d_Mo_offFour_193 ?_
      refine lv_topi (fun x96 _ => ?_)
      refine lv_ldc (v := 65535) hx hb hown (hG _ gw_11_36) d_Mo_offFour_194 ?_
      refine lv_iand hx hb d_Mo_offFour_196 ?_
      refine lv_topi (fun x97 _ => ?_)
      refine lv_istore hx hb d_Mo_offFour_197 hl (by decide) rfl (fun ls hl => ?_)
      have hl : lv_has ls 12 [(5, .int x97), (4, .int x87), (3, .int x77), (11, .int x42), (10, .int x67), (9, .int x65), (8, .int x54), (0, .ref (aw_m ad 0)), (1, .long b), (6, .int x44), (7, .int (nI (6 * d)))] := hl
      refine lv_iload hx hb d_Mo_offFour_199 (lv_at hl 9 rfl) ?_
      refine lv_iload hx hb d_Mo_offFour_201 (lv_at hl 4 rfl) ?_
      refine lv_ixor hx hb d_Mo_offFour_203 ?_
      refine lv_topi (fun x98 _ => ?_)
      refine lv_aload_n hx hb d_Mo_offFour_204 rfl (lv_at hl 7 rfl) ?_
      obtain ⟨x100, o101, hw102, he99⟩ := rd_M0 hSh
      refine va_get (C := R_Mo) (T := T_Mo) (N := 19) (v := .ref (aw_m ad 15)) hx hb hG in_Mo hown hK hP 67 he99 rfl 17 (by decide) (hG _ gw_9_42) (fun _ h => h) rfl d_Mo_offFour_205 ?_
      refine lv_iload hx hb d_Mo_offFour_208 (lv_at hl 10 rfl) ?_
      refine lv_iconst (v := nI 3) hx hb d_Mo_offFour_210 (by decide +kernel) ?_
      refine lv_iadd hx hb d_Mo_offFour_211 ?_
      refine aw_ti (nI_add (6 * d) 3) ?_
      obtain ⟨f104, he103⟩ := rd_M15 hSh
      refine aw_ild hx hb hK hP 82 0 he103 rfl (k := ((6 * d) + 3)) (by omega) (by decide) d_Mo_offFour_212 ?_
      refine lv_topi (fun x105 _ => ?_)
      refine aw_ci ((va_runS (As := [.int x105]) (rest := [.int x98]) ⟨hx, hb, hml, hown, hG⟩ (k_Mo_inverse l x105) (aw_wS 1 hG gw_11_53 gw_11_51 gw_0_10 gw_11_52 rfl rfl hd_Mo_inverse ⟨Nat.le_of_ble_eq_true rfl, Nat.le_of_ble_eq_true rfl⟩) aw_p0 rfl rfl hl.1 rfl (lv_room (Nat.le_of_ble_eq_true rfl)) d_Mo_offFour_213 ⟨Nat.le_of_ble_eq_true rfl, Nat.le_of_ble_eq_true rfl⟩).run) (fun x106 hx106 => ?_)
      refine aw_ci ((va_runS (As := [.int x98, .int x106]) (rest := []) ⟨hx, hb, hml, hown, hG⟩ (k_Mo_times l x98 x106) (aw_wS 2 hG gw_11_56 gw_11_54 gw_0_10 gw_11_55 rfl rfl hd_Mo_times ⟨Nat.le_of_ble_eq_true rfl, Nat.le_of_ble_eq_true rfl⟩) aw_p0 rfl rfl hl.1 rfl (lv_room (Nat.le_of_ble_eq_true rfl)) d_Mo_offFour_216 ⟨Nat.le_of_ble_eq_true rfl, Nat.le_of_ble_eq_true rfl⟩).run) (fun x107 hx107 => ?_)
      refine lv_istore hx hb d_Mo_offFour_219 hl (by decide) rfl (fun ls hl => ?_)
      have hl : lv_has ls 12 [(6, .int x107), (5, .int x97), (4, .int x87), (3, .int x77), (11, .int x42), (10, .int x67), (9, .int x65), (8, .int x54), (0, .ref (aw_m ad 0)), (1, .long b), (7, .int (nI (6 * d)))] := hl
      refine lv_iinc (k := 10) (v := aw_d6 d) hx hb d_Mo_offFour_221 hl rfl (aw_d6_i d) (by decide) rfl (fun ls hl => ?_)
      have hl : lv_has ls 12 [(7, .int (aw_d6 d)), (6, .int x107), (5, .int x97), (4, .int x87), (3, .int x77), (11, .int x42), (10, .int x67), (9, .int x65), (8, .int x54), (0, .ref (aw_m ad 0)), (1, .long b)] := hl
      refine lv_goto (tgt := 79) hx hb d_Mo_offFour_224 (by decide) ?_
      have hl := lv_sub hl (l' := [(0, .ref (aw_m ad 0)), (1, .long b), (3, .int x77), (4, .int x87), (5, .int x97), (6, .int x107), (7, .int (aw_d6 d))]) [9, 10, 4, 3, 2, 1, 0] rfl
      exact ih (t + 1) x77 x87 x97 x107 H locs L ls (by omega) hP hD hSh hS (by first | exact hl | simpa [Nat.add_assoc, Nat.mul_add, Nat.add_comm] using hl)
  have hl := lv_sub hl (l' := [(0, .ref (aw_m ad 0)), (1, .long b), (3, .int x10), (4, .int x20), (5, .int x30), (6, .int x40), (7, .int (nI 42))]) [5, 6, 4, 3, 2, 1, 0] rfl
  exact L79 8 0 x10 x20 x30 x40 _ _ _ ls (by omega) hP hD hSh hS (by first | exact hl | simpa using hl)
abbrev ws_Mo_on : List Cond := Cond.code y_Mo_on b_Mo_on 8 (some .long) :: aw_G
abbrev rm_Mo_on : Room := { frames := 2, cells := 0, slots := 0, locals := 56 }
set_option maxHeartbeats 4000000 in
set_option maxRecDepth 100000 in
theorem k_Mo_on (l : Launch) (D : va_G) (g : Nat → ClassId) (ad : Nat → Nat) (G M : Nat → Nat × Nat) (F : Int32) (N0 : Nat) (b : Int64) : Met l y_Mo_on ws_Mo_on rm_Mo_on (va_Pc ([.ref (aw_m ad 0), .long b] : List Value) (aw_B D g ad G M F N0)) (va_Ql (fun r (_ : Unit) => True) (fun (_ : Unit) t => aw_H D g ad G M F N0 t.heap) (aw_Z N0)) 0 0 (aw_Z N0) := by
  refine Met.ofW (cc := b_Mo_on) (maxL := 8) (ret := (some .long)) (by decide) rfl ?_
  intro p e s m args below meth c s₁ B hml hv
  obtain ⟨rfl, ⟨L, hP, hD, hSh⟩, hU⟩ := hv
  have hx := B.exec
  have hb := B.bytes
  have hr := B.returns
  have hG : ∀ w ∈ aw_G, w.before _ s = true := fun w h => atoms_spec (ws := ws_Mo_on) B.pre w (List.mem_cons_of_mem _ h)
  have hown : s.vm.findClass "RuleCiphersModel" = some m.cls := findClass_of_methodNamed B.named
  have hlocks := B.notSynchronized
  have hE := hU.1
  have hK := hE.1
  have hN := hE.2.1
  have hS : va_S (aw_Z N0) s.heap s.heap [] := va_S.rf
  have hl := lv_entry ([.ref (aw_m ad 0), .long b] : List Value) (n := 8) (Nat.le_of_ble_eq_true rfl)
  rw [lg_entry_eq]
  generalize (lg_sl ([.ref (aw_m ad 0), .long b] : List Value) ++ List.replicate (8 - (lg_sl ([.ref (aw_m ad 0), .long b] : List Value)).length) Slot.unset).toArray = ls at hl ⊢
  have hl : lv_has ls 8 [(0, .ref (aw_m ad 0)), (1, .long b)] := hl
  refine lv_lload_n hx hb d_Mo_on_0 rfl (lv_at hl 1 rfl) ?_
  refine aw_ci ((va_runS (As := [.long b]) (rest := []) ⟨hx, hb, hml, hown, hG⟩ (k_Mo_upper l b) (aw_wS 1 hG gw_11_17 gw_11_15 gw_0_10 gw_11_16 rfl rfl hd_Mo_upper ⟨Nat.le_of_ble_eq_true rfl, Nat.le_of_ble_eq_true rfl⟩) aw_p0 rfl rfl hl.1 rfl (lv_room (Nat.le_of_ble_eq_true rfl)) d_Mo_on_1 ⟨Nat.le_of_ble_eq_true rfl, Nat.le_of_ble_eq_true rfl⟩).run) (fun x1 hx1 => ?_)
  refine lv_istore_n hx hb d_Mo_on_4 rfl hl (by decide) rfl (fun ls hl => ?_)
  have hl : lv_has ls 8 [(3, .int x1), (0, .ref (aw_m ad 0)), (1, .long b)] := hl
  refine lv_lload_n hx hb d_Mo_on_5 rfl (lv_at hl 2 rfl) ?_
  refine lv_l2i hx hb d_Mo_on_6 rfl ?_
  refine lv_topi (fun x2 _ => ?_)
  refine lv_istore hx hb d_Mo_on_7 hl (by decide) rfl (fun ls hl => ?_)
  have hl : lv_has ls 8 [(4, .int x2), (3, .int x1), (0, .ref (aw_m ad 0)), (1, .long b)] := hl
  refine lv_iconst (v := nI 0) hx hb d_Mo_on_9 (by decide +kernel) ?_
  refine lv_istore hx hb d_Mo_on_10 hl (by decide) rfl (fun ls hl => ?_)
  have hl : lv_has ls 8 [(5, .int (nI 0)), (4, .int x2), (3, .int x1), (0, .ref (aw_m ad 0)), (1, .long b)] := hl
  refine lv_aload_n hx hb d_Mo_on_12 rfl (lv_at hl 3 rfl) ?_
  obtain ⟨x4, o5, hw6, he3⟩ := rd_M0 hSh
  refine va_get (C := R_Mo) (T := T_Mo) (N := 19) (v := .int x4) hx hb hG in_Mo hown hK hP 67 he3 rfl 15 (by decide) (hG _ gw_9_40) (fun _ h => h) rfl d_Mo_on_13 ?_
  rcases aw_sw x4 (n := 4) (by decide) with hs7 | hs7
  · refine lv_tableOut (tgt := 344) hx hb d_Mo_on_16 (by first | exact hs7 | omega) (by decide) ?_
    refine lv_aload_n hx hb d_Mo_on_344 rfl (lv_at hl 3 rfl) ?_
    refine lv_lload_n hx hb d_Mo_on_345 rfl (lv_at hl 4 rfl) ?_
    obtain ⟨_, _, _, he8⟩ := rd_M0 hSh
    refine va_calll (va_runV (As := [.long b]) (rest := []) ⟨hx, hb, hml, hown, hG⟩ (k_Mo_onFour l D g ad G M F N0 b) (aw_wV 1 hG gw_12_7 gw_12_5 gw_0_10 gw_12_6 gw_p_19 rfl rfl hd_Mo_onFour ⟨Nat.le_of_ble_eq_true rfl, Nat.le_of_ble_eq_true rfl⟩) (aw_qV (va_recv hK hP rfl he8) hP hD hSh hU hS) rfl rfl hl.1 rfl (lv_room (Nat.le_of_ble_eq_true rfl)) d_Mo_on_346 ⟨Nat.le_of_ble_eq_true rfl, Nat.le_of_ble_eq_true rfl⟩) hS (fun _ _ h => h) (fun _ h => h) (fun y9 u8 t8 H locs ht _ _ hB _ _ hS => ?_)
    obtain ⟨L, hP, hD, hSh⟩ := hB
    rw [ht] at hP
    clear ht
    exact W.lret hx hb hr (fun t ht hW => ⟨⟨_, (), rfl, trivial, aw_Hr ht hP hD hSh⟩, hS.F ht⟩) hS.2.2 d_Mo_on_349
  · obtain ⟨k10, hk10, ek10⟩ := hs7
    rcases (by omega : k10 = 0 ∨ k10 = 1 ∨ k10 = 2 ∨ k10 = 3) with hs7 | hs7 | hs7 | hs7
    · refine aw_ti (y := nI 0) (by rw [ek10, hs7]) ?_
      refine lv_tableIn (tgt := 48) (off := 32) hx hb d_Mo_on_16 (by decide +kernel) (by decide +kernel) (by decide +kernel) (by decide) ?_
      refine lv_iload_n hx hb d_Mo_on_48 rfl (lv_at hl 2 rfl) ?_
      refine aw_ci ((va_runS (As := [.int x1]) (rest := []) ⟨hx, hb, hml, hown, hG⟩ (k_Mo_swapped l x1) (aw_wS 1 hG gw_11_20 gw_11_18 gw_0_10 gw_11_19 rfl rfl hd_Mo_swapped ⟨Nat.le_of_ble_eq_true rfl, Nat.le_of_ble_eq_true rfl⟩) aw_p0 rfl rfl hl.1 rfl (lv_room (Nat.le_of_ble_eq_true rfl)) d_Mo_on_49 ⟨Nat.le_of_ble_eq_true rfl, Nat.le_of_ble_eq_true rfl⟩).run) (fun x11 hx11 => ?_)
      refine lv_aload_n hx hb d_Mo_on_52 rfl (lv_at hl 3 rfl) ?_
      obtain ⟨x13, o14, hw15, he12⟩ := rd_M0 hSh
      refine va_get (C := R_Mo) (T := T_Mo) (N := 19) (v := .ref (aw_m ad 15)) hx hb hG in_Mo hown hK hP 67 he12 rfl 17 (by decide) (hG _ gw_9_42) (fun _ h => h) rfl d_Mo_on_53 ?_
      refine lv_iconst (v := nI 0) hx hb d_Mo_on_56 (by decide +kernel) ?_
      obtain ⟨f17, he16⟩ := rd_M15 hSh
      refine aw_ild hx hb hK hP 82 0 he16 rfl (k := 0) (by omega) (by decide) d_Mo_on_57 ?_
      refine lv_topi (fun x18 _ => ?_)
      refine lv_iadd hx hb d_Mo_on_58 ?_
      refine lv_topi (fun x19 _ => ?_)
      refine lv_istore_n hx hb d_Mo_on_59 rfl hl (by decide) rfl (fun ls hl => ?_)
      have hl : lv_has ls 8 [(3, .int x19), (5, .int (nI 0)), (4, .int x2), (0, .ref (aw_m ad 0)), (1, .long b)] := hl
      refine lv_iload hx hb d_Mo_on_60 (lv_at hl 2 rfl) ?_
      refine aw_ci ((va_runS (As := [.int x2]) (rest := []) ⟨hx, hb, hml, hown, hG⟩ (k_Mo_swapped l x2) (aw_wS 1 hG gw_11_20 gw_11_18 gw_0_10 gw_11_19 rfl rfl hd_Mo_swapped ⟨Nat.le_of_ble_eq_true rfl, Nat.le_of_ble_eq_true rfl⟩) aw_p0 rfl rfl hl.1 rfl (lv_room (Nat.le_of_ble_eq_true rfl)) d_Mo_on_62 ⟨Nat.le_of_ble_eq_true rfl, Nat.le_of_ble_eq_true rfl⟩).run) (fun x20 hx20 => ?_)
      refine lv_aload_n hx hb d_Mo_on_65 rfl (lv_at hl 3 rfl) ?_
      obtain ⟨x22, o23, hw24, he21⟩ := rd_M0 hSh
      refine va_get (C := R_Mo) (T := T_Mo) (N := 19) (v := .ref (aw_m ad 15)) hx hb hG in_Mo hown hK hP 67 he21 rfl 17 (by decide) (hG _ gw_9_42) (fun _ h => h) rfl d_Mo_on_66 ?_
      refine lv_iconst (v := nI 1) hx hb d_Mo_on_69 (by decide +kernel) ?_
      obtain ⟨f26, he25⟩ := rd_M15 hSh
      refine aw_ild hx hb hK hP 82 0 he25 rfl (k := 1) (by omega) (by decide) d_Mo_on_70 ?_
      refine lv_topi (fun x27 _ => ?_)
      refine lv_iadd hx hb d_Mo_on_71 ?_
      refine lv_topi (fun x28 _ => ?_)
      refine lv_istore hx hb d_Mo_on_72 hl (by decide) rfl (fun ls hl => ?_)
      have hl : lv_has ls 8 [(4, .int x28), (3, .int x19), (5, .int (nI 0)), (0, .ref (aw_m ad 0)), (1, .long b)] := hl
      refine lv_iconst (v := nI 1) hx hb d_Mo_on_74 (by decide +kernel) ?_
      refine lv_istore hx hb d_Mo_on_75 hl (by decide) rfl (fun ls hl => ?_)
      have hl : lv_has ls 8 [(6, .int (nI 1)), (4, .int x28), (3, .int x19), (5, .int (nI 0)), (0, .ref (aw_m ad 0)), (1, .long b)] := hl
      have L77 : ∀ (d t : Nat) (x29 : Int32) (x30 : Int32) (H : Heap) (locs : List Loc) (L : va_W) (ls : Array Slot), t + d = 12 → va_P D aw_C L H → va_D (aw_Z N0) L → aw_Sh g ad G M F L → va_S (aw_Z N0) s.heap H locs → lv_has ls 8 [(0, .ref (aw_m ad 0)), (1, .long b), (3, .int x29), (4, .int x30), (5, .int (nI 0)), (6, .int (nI (1 + t)))] → W p l e (headSpec ws_Mo_on rm_Mo_on).room s m ([.ref (aw_m ad 0), .long b] : List Value).toArray below meth c H locs 0 0 (MQ below (va_Ql (fun r (_ : Unit) => True) (fun (_ : Unit) t => aw_H D g ad G M F N0 t.heap) (aw_Z N0)) ([.ref (aw_m ad 0), .long b] : List Value).toArray s 0 0 (aw_Z N0)) (F0 m 77 ls []) := by
        clear hP hD hSh hS
        clear hl
        intro d
        induction d with
        | zero => 
          intro t x29 x30 H locs L ls ht0 hP hD hSh hS hl
          refine lv_iload hx hb d_Mo_on_77 (lv_at hl 5 rfl) ?_
          refine lv_bipush (v := nI 13) hx hb d_Mo_on_79 (by decide +kernel) ?_
          refine lv_icmp_ge (tgt := 132) hx hb d_Mo_on_81 (by decide) (fun _ => ?_) (fun h => absurd (show nI 13 ≤ nI (1 + t) from (nI_leI (by omega) (by omega)).mpr (by omega)) h)
          refine lv_iload_n hx hb d_Mo_on_132 rfl (lv_at hl 2 rfl) ?_
          refine aw_ci ((va_runS (As := [.int x29]) (rest := []) ⟨hx, hb, hml, hown, hG⟩ (k_Mo_swapped l x29) (aw_wS 1 hG gw_11_20 gw_11_18 gw_0_10 gw_11_19 rfl rfl hd_Mo_swapped ⟨Nat.le_of_ble_eq_true rfl, Nat.le_of_ble_eq_true rfl⟩) aw_p0 rfl rfl hl.1 rfl (lv_room (Nat.le_of_ble_eq_true rfl)) d_Mo_on_133 ⟨Nat.le_of_ble_eq_true rfl, Nat.le_of_ble_eq_true rfl⟩).run) (fun x31 hx31 => ?_)
          refine lv_iload hx hb d_Mo_on_136 (lv_at hl 3 rfl) ?_
          refine aw_ci ((va_runS (As := [.int x30]) (rest := [.int x31]) ⟨hx, hb, hml, hown, hG⟩ (k_Mo_swapped l x30) (aw_wS 1 hG gw_11_20 gw_11_18 gw_0_10 gw_11_19 rfl rfl hd_Mo_swapped ⟨Nat.le_of_ble_eq_true rfl, Nat.le_of_ble_eq_true rfl⟩) aw_p0 rfl rfl hl.1 rfl (lv_room (Nat.le_of_ble_eq_true rfl)) d_Mo_on_138 ⟨Nat.le_of_ble_eq_true rfl, Nat.le_of_ble_eq_true rfl⟩).run) (fun x32 hx32 => ?_)
          refine aw_cl ((va_runS (As := [.int x31, .int x32]) (rest := []) ⟨hx, hb, hml, hown, hG⟩ (k_Mo_joined l x31 x32) (aw_wS 2 hG gw_11_43 gw_11_41 gw_0_10 gw_11_42 rfl rfl hd_Mo_joined ⟨Nat.le_of_ble_eq_true rfl, Nat.le_of_ble_eq_true rfl⟩) aw_p0 rfl rfl hl.1 rfl (lv_room (Nat.le_of_ble_eq_true rfl)) d_Mo_on_141 ⟨Nat.le_of_ble_eq_true rfl, Nat.le_of_ble_eq_true rfl⟩).run) (fun y33 hy33 => ?_)
          exact W.lret hx hb hr (fun t ht hW => ⟨⟨_, (), rfl, trivial, aw_Hr ht hP hD hSh⟩, hS.F ht⟩) hS.2.2 d_Mo_on_144
        | succ d ih => 
          intro t x29 x30 H locs L ls ht0 hP hD hSh hS hl
          refine lv_iload hx hb d_Mo_on_77 (lv_at hl 5 rfl) ?_
          refine lv_bipush (v := nI 13) hx hb d_Mo_on_79 (by decide +kernel) ?_
          refine lv_icmp_ge (tgt := 132) hx hb d_Mo_on_81 (by decide) (fun h => absurd h (show ¬ nI 13 ≤ nI (1 + t) from fun h9 => absurd ((nI_leI (by omega) (by omega)).mp h9) (by omega))) (fun _ => ?_)
          refine lv_iload_n hx hb d_Mo_on_84 rfl (lv_at hl 2 rfl) ?_
          refine lv_iload hx hb d_Mo_on_85 (lv_at hl 3 rfl) ?_
          refine lv_ixor hx hb d_Mo_on_87 ?_
          refine lv_topi (fun x34 _ => ?_)
          refine lv_iload hx hb d_Mo_on_88 (lv_at hl 3 rfl) ?_
          refine aw_ci ((va_runS (As := [.int x34, .int x30]) (rest := []) ⟨hx, hb, hml, hown, hG⟩ (k_Mo_turn l x34 x30) (aw_wS 2 hG gw_11_24 gw_11_22 gw_0_10 gw_11_23 rfl rfl hd_Mo_turn ⟨Nat.le_of_ble_eq_true rfl, Nat.le_of_ble_eq_true rfl⟩) aw_p0 rfl rfl hl.1 rfl (lv_room (Nat.le_of_ble_eq_true rfl)) d_Mo_on_90 ⟨Nat.le_of_ble_eq_true rfl, Nat.le_of_ble_eq_true rfl⟩).run) (fun x35 hx35 => ?_)
          refine lv_aload_n hx hb d_Mo_on_93 rfl (lv_at hl 0 rfl) ?_
          obtain ⟨x37, o38, hw39, he36⟩ := rd_M0 hSh
          refine va_get (C := R_Mo) (T := T_Mo) (N := 19) (v := .ref (aw_m ad 15)) hx hb hG in_Mo hown hK hP 67 he36 rfl 17 (by decide) (hG _ gw_9_42) (fun _ h => h) rfl d_Mo_on_94 ?_
          refine lv_iconst (v := nI 2) hx hb d_Mo_on_97 (by decide +kernel) ?_
          refine lv_iload hx hb d_Mo_on_98 (lv_at hl 5 rfl) ?_
          refine lv_imul hx hb d_Mo_on_100 ?_
          refine aw_ti (pk_mul 2 (1 + t)) ?_
          obtain ⟨f41, he40⟩ := rd_M15 hSh
          refine aw_ild hx hb hK hP 82 0 he40 rfl (k := (2 * (1 + t))) (by omega) (by decide) d_Mo_on_101 ?_
          refine lv_topi (fun x42 _ => ?_)
          refine lv_iadd hx hb d_Mo_on_102 ?_
          refine lv_topi (fun x43 _ => ?_)
          refine lv_istore_n hx hb d_Mo_on_103 rfl hl (by decide) rfl (fun ls hl => ?_)
          have hl : lv_has ls 8 [(3, .int x43), (0, .ref (aw_m ad 0)), (1, .long b), (4, .int x30), (5, .int (nI 0)), (6, .int (nI (1 + t)))] := hl
          refine lv_iload hx hb d_Mo_on_104 (lv_at hl 3 rfl) ?_
          refine lv_iload_n hx hb d_Mo_on_106 rfl (lv_at hl 0 rfl) ?_
          refine lv_ixor hx hb d_Mo_on_107 ?_
          refine lv_topi (fun x44 _ => ?_)
          refine lv_iload_n hx hb d_Mo_on_108 rfl (lv_at hl 0 rfl) ?_
          refine aw_ci ((va_runS (As := [.int x44, .int x43]) (rest := []) ⟨hx, hb, hml, hown, hG⟩ (k_Mo_turn l x44 x43) (aw_wS 2 hG gw_11_24 gw_11_22 gw_0_10 gw_11_23 rfl rfl hd_Mo_turn ⟨Nat.le_of_ble_eq_true rfl, Nat.le_of_ble_eq_true rfl⟩) aw_p0 rfl rfl hl.1 rfl (lv_room (Nat.le_of_ble_eq_true rfl)) d_Mo_on_109 ⟨Nat.le_of_ble_eq_true rfl, Nat.le_of_ble_eq_true rfl⟩).run) (fun x45 hx45 => ?_)
          refine lv_aload_n hx hb d_Mo_on_112 rfl (lv_at hl 1 rfl) ?_
          obtain ⟨x47, o48, hw49, he46⟩ := rd_M0 hSh
          refine va_get (C := R_Mo) (T := T_Mo) (N := 19) (v := .ref (aw_m ad 15)) hx hb hG in_Mo hown hK hP 67 he46 rfl 17 (by decide) (hG _ gw_9_42) (fun _ h => h) rfl d_Mo_on_113 ?_
          refine lv_iconst (v := nI 2) hx hb d_Mo_on_116 (by decide +kernel) ?_
          refine lv_iload hx hb d_Mo_on_117 (lv_at hl 5 rfl) ?_
          refine lv_imul hx hb d_Mo_on_119 ?_
          refine aw_ti (pk_mul 2 (1 + t)) ?_
          refine lv_iconst (v := nI 1) hx hb d_Mo_on_120 (by decide +kernel) ?_
          refine lv_iadd hx hb d_Mo_on_121 ?_
          refine aw_ti (nI_add (2 * (1 + t)) 1) ?_
          obtain ⟨f51, he50⟩ := rd_M15 hSh
          refine aw_ild hx hb hK hP 82 0 he50 rfl (k := ((2 * (1 + t)) + 1)) (by omega) (by decide) d_Mo_on_122 ?_
          refine lv_topi (fun x52 _ => ?_)
          refine lv_iadd hx hb d_Mo_on_123 ?_
          refine lv_topi (fun x53 _ => ?_)
          refine lv_istore hx hb d_Mo_on_124 hl (by decide) rfl (fun ls hl => ?_)
          have hl : lv_has ls 8 [(4, .int x53), (3, .int x43), (0, .ref (aw_m ad 0)), (1, .long b), (5, .int (nI 0)), (6, .int (nI (1 + t)))] := hl
          refine lv_iinc (k := 5) (v := nI (1 + t + 1)) hx hb d_Mo_on_126 hl rfl (aw_inc (1 + t) 1 1 (by decide +kernel)) (by decide) rfl (fun ls hl => ?_)
          have hl : lv_has ls 8 [(6, .int (nI (1 + t + 1))), (4, .int x53), (3, .int x43), (0, .ref (aw_m ad 0)), (1, .long b), (5, .int (nI 0))] := hl
          refine lv_goto (tgt := 77) hx hb d_Mo_on_129 (by decide) ?_
          have hl := lv_sub hl (l' := [(0, .ref (aw_m ad 0)), (1, .long b), (3, .int x43), (4, .int x53), (5, .int (nI 0)), (6, .int (nI (1 + t + 1)))]) [3, 4, 2, 1, 5, 0] rfl
          exact ih (t + 1) x43 x53 H locs L ls (by omega) hP hD hSh hS (by first | exact hl | simpa [Nat.add_assoc, Nat.mul_add, Nat.add_comm] using hl)
      have hl := lv_sub hl (l' := [(0, .ref (aw_m ad 0)), (1, .long b), (3, .int x19), (4, .int x28), (5, .int (nI 0)), (6, .int (nI 1))]) [4, 5, 2, 1, 3, 0] rfl
      exact L77 12 0 x19 x28 _ _ _ ls (by omega) hP hD hSh hS (by first | exact hl | simpa using hl)
    · refine aw_ti (y := nI 1) (by rw [ek10, hs7]) ?_
      refine lv_tableIn (tgt := 145) (off := 129) hx hb d_Mo_on_16 (by decide +kernel) (by decide +kernel) (by decide +kernel) (by decide) ?_
      refine lv_iconst (v := nI 0) hx hb d_Mo_on_145 (by decide +kernel) ?_
      refine lv_istore hx hb d_Mo_on_146 hl (by decide) rfl (fun ls hl => ?_)
      have hl : lv_has ls 8 [(6, .int (nI 0)), (5, .int (nI 0)), (4, .int x2), (3, .int x1), (0, .ref (aw_m ad 0)), (1, .long b)] := hl
      have L148 : ∀ (d t : Nat) (x54 : Int32) (x55 : Int32) (x56 : Int32) (H : Heap) (locs : List Loc) (L : va_W) (ls : Array Slot), t + d = 32 → va_P D aw_C L H → va_D (aw_Z N0) L → aw_Sh g ad G M F L → va_S (aw_Z N0) s.heap H locs → lv_has ls 8 [(0, .ref (aw_m ad 0)), (1, .long b), (3, .int x54), (4, .int x55), (5, .int x56), (6, .int (nI t))] → W p l e (headSpec ws_Mo_on rm_Mo_on).room s m ([.ref (aw_m ad 0), .long b] : List Value).toArray below meth c H locs 0 0 (MQ below (va_Ql (fun r (_ : Unit) => True) (fun (_ : Unit) t => aw_H D g ad G M F N0 t.heap) (aw_Z N0)) ([.ref (aw_m ad 0), .long b] : List Value).toArray s 0 0 (aw_Z N0)) (F0 m 148 ls []) := by
        clear hP hD hSh hS
        clear hl
        intro d
        induction d with
        | zero => 
          intro t x54 x55 x56 H locs L ls ht0 hP hD hSh hS hl
          refine lv_iload hx hb d_Mo_on_148 (lv_at hl 5 rfl) ?_
          refine lv_bipush (v := nI 32) hx hb d_Mo_on_150 (by decide +kernel) ?_
          refine lv_icmp_ge (tgt := 226) hx hb d_Mo_on_152 (by decide) (fun _ => ?_) (fun h => absurd (show nI 32 ≤ nI t from (nI_leI (by omega) (by omega)).mpr (by omega)) h)
          refine lv_iload_n hx hb d_Mo_on_226 rfl (lv_at hl 2 rfl) ?_
          refine lv_iload hx hb d_Mo_on_227 (lv_at hl 3 rfl) ?_
          refine aw_cl ((va_runS (As := [.int x54, .int x55]) (rest := []) ⟨hx, hb, hml, hown, hG⟩ (k_Mo_joined l x54 x55) (aw_wS 2 hG gw_11_43 gw_11_41 gw_0_10 gw_11_42 rfl rfl hd_Mo_joined ⟨Nat.le_of_ble_eq_true rfl, Nat.le_of_ble_eq_true rfl⟩) aw_p0 rfl rfl hl.1 rfl (lv_room (Nat.le_of_ble_eq_true rfl)) d_Mo_on_229 ⟨Nat.le_of_ble_eq_true rfl, Nat.le_of_ble_eq_true rfl⟩).run) (fun y57 hy57 => ?_)
          exact W.lret hx hb hr (fun t ht hW => ⟨⟨_, (), rfl, trivial, aw_Hr ht hP hD hSh⟩, hS.F ht⟩) hS.2.2 d_Mo_on_232
        | succ d ih => 
          intro t x54 x55 x56 H locs L ls ht0 hP hD hSh hS hl
          refine lv_iload hx hb d_Mo_on_148 (lv_at hl 5 rfl) ?_
          refine lv_bipush (v := nI 32) hx hb d_Mo_on_150 (by decide +kernel) ?_
          refine lv_icmp_ge (tgt := 226) hx hb d_Mo_on_152 (by decide) (fun h => absurd h (show ¬ nI 32 ≤ nI t from fun h9 => absurd ((nI_leI (by omega) (by omega)).mp h9) (by omega))) (fun _ => ?_)
          refine lv_iload_n hx hb d_Mo_on_155 rfl (lv_at hl 2 rfl) ?_
          refine lv_iload hx hb d_Mo_on_156 (lv_at hl 3 rfl) ?_
          refine lv_iconst (v := nI 4) hx hb d_Mo_on_158 (by decide +kernel) ?_
          refine lv_ishl hx hb d_Mo_on_159 ?_
          refine lv_topi (fun x58 _ => ?_)
          refine lv_iload hx hb d_Mo_on_160 (lv_at hl 3 rfl) ?_
          refine lv_iconst (v := nI 5) hx hb d_Mo_on_162 (by decide +kernel) ?_
          refine lv_iushr hx hb d_Mo_on_163 rfl ?_
          refine lv_topi (fun x59 _ => ?_)
          refine lv_ixor hx hb d_Mo_on_164 ?_
          refine lv_topi (fun x60 _ => ?_)
          refine lv_iload hx hb d_Mo_on_165 (lv_at hl 3 rfl) ?_
          refine lv_iadd hx hb d_Mo_on_167 ?_
          refine lv_topi (fun x61 _ => ?_)
          refine lv_iload hx hb d_Mo_on_168 (lv_at hl 4 rfl) ?_
          refine lv_aload_n hx hb d_Mo_on_170 rfl (lv_at hl 0 rfl) ?_
          obtain ⟨x63, o64, hw65, he62⟩ := rd_M0 hSh
          refine va_get (C := R_Mo) (T := T_Mo) (N := 19) (v := .ref (aw_m ad 15)) hx hb hG in_Mo hown hK hP 67 he62 rfl 17 (by decide) (hG _ gw_9_42) (fun _ h => h) rfl d_Mo_on_171 ?_
          refine lv_iload hx hb d_Mo_on_174 (lv_at hl 4 rfl) ?_
          refine lv_iconst (v := nI 3) hx hb d_Mo_on_176 (by decide +kernel) ?_
          refine lv_iand hx hb d_Mo_on_177 ?_
          obtain ⟨k66, hk66, ek66⟩ := pk_andE x56 (m := nI 3) 2 (by decide +kernel)
          refine aw_ti ek66 ?_
          obtain ⟨f68, he67⟩ := rd_M15 hSh
          refine aw_ild hx hb hK hP 82 0 he67 rfl (k := k66) (by omega) (by decide) d_Mo_on_178 ?_
          refine lv_topi (fun x69 _ => ?_)
          refine lv_iadd hx hb d_Mo_on_179 ?_
          refine lv_topi (fun x70 _ => ?_)
          refine lv_ixor hx hb d_Mo_on_180 ?_
          refine lv_topi (fun x71 _ => ?_)
          refine lv_iadd hx hb d_Mo_on_181 ?_
          refine lv_topi (fun x72 _ => ?_)
          refine lv_istore_n hx hb d_Mo_on_182 rfl hl (by decide) rfl (fun ls hl => ?_)
          have hl : lv_has ls 8 [(3, .int x72), (0, .ref (aw_m ad 0)), (1, .long b), (4, .int x55), (5, .int x56), (6, .int (nI t))] := hl
          refine lv_iload hx hb d_Mo_on_183 (lv_at hl 4 rfl) ?_
          refine lv_ldc (v := (-1640531527)) hx hb hown (hG _ gw_11_11) d_Mo_on_185 ?_
          refine lv_iadd hx hb d_Mo_on_187 ?_
          refine lv_topi (fun x73 _ => ?_)
          refine lv_istore hx hb d_Mo_on_188 hl (by decide) rfl (fun ls hl => ?_)
          have hl : lv_has ls 8 [(5, .int x73), (3, .int x72), (0, .ref (aw_m ad 0)), (1, .long b), (4, .int x55), (6, .int (nI t))] := hl
          refine lv_iload hx hb d_Mo_on_190 (lv_at hl 4 rfl) ?_
          refine lv_iload_n hx hb d_Mo_on_192 rfl (lv_at hl 1 rfl) ?_
          refine lv_iconst (v := nI 4) hx hb d_Mo_on_193 (by decide +kernel) ?_
          refine lv_ishl hx hb d_Mo_on_194 ?_
          refine lv_topi (fun x74 _ => ?_)
          refine lv_iload_n hx hb d_Mo_on_195 rfl (lv_at hl 1 rfl) ?_
          refine lv_iconst (v := nI 5) hx hb d_Mo_on_196 (by decide +kernel) ?_
          refine lv_iushr hx hb d_Mo_on_197 rfl ?_
          refine lv_topi (fun x75 _ => ?_)
          refine lv_ixor hx hb d_Mo_on_198 ?_
          refine lv_topi (fun x76 _ => ?_)
          refine lv_iload_n hx hb d_Mo_on_199 rfl (lv_at hl 1 rfl) ?_
          refine lv_iadd hx hb d_Mo_on_200 ?_
          refine lv_topi (fun x77 _ => ?_)
          refine lv_iload hx hb d_Mo_on_201 (lv_at hl 0 rfl) ?_
          refine lv_aload_n hx hb d_Mo_on_203 rfl (lv_at hl 2 rfl) ?_
          obtain ⟨x79, o80, hw81, he78⟩ := rd_M0 hSh
          refine va_get (C := R_Mo) (T := T_Mo) (N := 19) (v := .ref (aw_m ad 15)) hx hb hG in_Mo hown hK hP 67 he78 rfl 17 (by decide) (hG _ gw_9_42) (fun _ h => h) rfl d_Mo_on_204 ?_
          refine lv_iload hx hb d_Mo_on_207 (lv_at hl 0 rfl) ?_
          refine lv_bipush (v := nI 11) hx hb d_Mo_on_209 (by decide +kernel) ?_
          refine lv_iushr hx hb d_Mo_on_211 rfl ?_
          refine lv_topi (fun x82 _ => ?_)
          refine lv_iconst (v := nI 3) hx hb d_Mo_on_212 (by decide +kernel) ?_
          refine lv_iand hx hb d_Mo_on_213 ?_
          obtain ⟨k83, hk83, ek83⟩ := pk_andE x82 (m := nI 3) 2 (by decide +kernel)
          refine aw_ti ek83 ?_
          obtain ⟨f85, he84⟩ := rd_M15 hSh
          refine aw_ild hx hb hK hP 82 0 he84 rfl (k := k83) (by omega) (by decide) d_Mo_on_214 ?_
          refine lv_topi (fun x86 _ => ?_)
          refine lv_iadd hx hb d_Mo_on_215 ?_
          refine lv_topi (fun x87 _ => ?_)
          refine lv_ixor hx hb d_Mo_on_216 ?_
          refine lv_topi (fun x88 _ => ?_)
          refine lv_iadd hx hb d_Mo_on_217 ?_
          refine lv_topi (fun x89 _ => ?_)
          refine lv_istore hx hb d_Mo_on_218 hl (by decide) rfl (fun ls hl => ?_)
          have hl : lv_has ls 8 [(4, .int x89), (5, .int x73), (3, .int x72), (0, .ref (aw_m ad 0)), (1, .long b), (6, .int (nI t))] := hl
          refine lv_iinc (k := 5) (v := nI (t + 1)) hx hb d_Mo_on_220 hl rfl (aw_inc t 1 1 (by decide +kernel)) (by decide) rfl (fun ls hl => ?_)
          have hl : lv_has ls 8 [(6, .int (nI (t + 1))), (4, .int x89), (5, .int x73), (3, .int x72), (0, .ref (aw_m ad 0)), (1, .long b)] := hl
          refine lv_goto (tgt := 148) hx hb d_Mo_on_223 (by decide) ?_
          have hl := lv_sub hl (l' := [(0, .ref (aw_m ad 0)), (1, .long b), (3, .int x72), (4, .int x89), (5, .int x73), (6, .int (nI (t + 1)))]) [4, 5, 3, 1, 2, 0] rfl
          exact ih (t + 1) x72 x89 x73 H locs L ls (by omega) hP hD hSh hS (by first | exact hl | simpa [Nat.add_assoc, Nat.mul_add, Nat.add_comm] using hl)
      have hl := lv_sub hl (l' := [(0, .ref (aw_m ad 0)), (1, .long b), (3, .int x1), (4, .int x2), (5, .int (nI 0)), (6, .int (nI 0))]) [4, 5, 3, 2, 1, 0] rfl
      exact L148 32 0 x1 x2 (nI 0) _ _ _ ls (by omega) hP hD hSh hS (by first | exact hl | simpa using hl)
    · refine aw_ti (y := nI 2) (by rw [ek10, hs7]) ?_
      refine lv_tableIn (tgt := 233) (off := 217) hx hb d_Mo_on_16 (by decide +kernel) (by decide +kernel) (by decide +kernel) (by decide) ?_
      refine lv_iconst (v := nI 0) hx hb d_Mo_on_233 (by decide +kernel) ?_
      refine lv_istore hx hb d_Mo_on_234 hl (by decide) rfl (fun ls hl => ?_)
      have hl : lv_has ls 8 [(6, .int (nI 0)), (5, .int (nI 0)), (4, .int x2), (3, .int x1), (0, .ref (aw_m ad 0)), (1, .long b)] := hl
      have L236 : ∀ (d t : Nat) (x90 : Int32) (x91 : Int32) (H : Heap) (locs : List Loc) (L : va_W) (ls : Array Slot), t + d = 27 → va_P D aw_C L H → va_D (aw_Z N0) L → aw_Sh g ad G M F L → va_S (aw_Z N0) s.heap H locs → lv_has ls 8 [(0, .ref (aw_m ad 0)), (1, .long b), (3, .int x90), (4, .int x91), (5, .int (nI 0)), (6, .int (nI t))] → W p l e (headSpec ws_Mo_on rm_Mo_on).room s m ([.ref (aw_m ad 0), .long b] : List Value).toArray below meth c H locs 0 0 (MQ below (va_Ql (fun r (_ : Unit) => True) (fun (_ : Unit) t => aw_H D g ad G M F N0 t.heap) (aw_Z N0)) ([.ref (aw_m ad 0), .long b] : List Value).toArray s 0 0 (aw_Z N0)) (F0 m 236 ls []) := by
        clear hP hD hSh hS
        clear hl
        intro d
        induction d with
        | zero => 
          intro t x90 x91 H locs L ls ht0 hP hD hSh hS hl
          refine lv_iload hx hb d_Mo_on_236 (lv_at hl 5 rfl) ?_
          refine lv_bipush (v := nI 27) hx hb d_Mo_on_238 (by decide +kernel) ?_
          refine lv_icmp_ge (tgt := 277) hx hb d_Mo_on_240 (by decide) (fun _ => ?_) (fun h => absurd (show nI 27 ≤ nI t from (nI_leI (by omega) (by omega)).mpr (by omega)) h)
          refine lv_iload_n hx hb d_Mo_on_277 rfl (lv_at hl 2 rfl) ?_
          refine lv_iload hx hb d_Mo_on_278 (lv_at hl 3 rfl) ?_
          refine aw_cl ((va_runS (As := [.int x90, .int x91]) (rest := []) ⟨hx, hb, hml, hown, hG⟩ (k_Mo_joined l x90 x91) (aw_wS 2 hG gw_11_43 gw_11_41 gw_0_10 gw_11_42 rfl rfl hd_Mo_joined ⟨Nat.le_of_ble_eq_true rfl, Nat.le_of_ble_eq_true rfl⟩) aw_p0 rfl rfl hl.1 rfl (lv_room (Nat.le_of_ble_eq_true rfl)) d_Mo_on_280 ⟨Nat.le_of_ble_eq_true rfl, Nat.le_of_ble_eq_true rfl⟩).run) (fun y92 hy92 => ?_)
          exact W.lret hx hb hr (fun t ht hW => ⟨⟨_, (), rfl, trivial, aw_Hr ht hP hD hSh⟩, hS.F ht⟩) hS.2.2 d_Mo_on_283
        | succ d ih => 
          intro t x90 x91 H locs L ls ht0 hP hD hSh hS hl
          refine lv_iload hx hb d_Mo_on_236 (lv_at hl 5 rfl) ?_
          refine lv_bipush (v := nI 27) hx hb d_Mo_on_238 (by decide +kernel) ?_
          refine lv_icmp_ge (tgt := 277) hx hb d_Mo_on_240 (by decide) (fun h => absurd h (show ¬ nI 27 ≤ nI t from fun h9 => absurd ((nI_leI (by omega) (by omega)).mp h9) (by omega))) (fun _ => ?_)
          refine lv_iload_n hx hb d_Mo_on_243 rfl (lv_at hl 2 rfl) ?_
          refine lv_bipush (v := nI 8) hx hb d_Mo_on_244 (by decide +kernel) ?_
          refine aw_ci ((va_runS (As := [.int x90, .int (nI 8)]) (rest := []) ⟨hx, hb, hml, hown, hG⟩ (k_Mo_back l x90 (nI 8)) (aw_wS 2 hG gw_11_27 gw_11_25 gw_0_10 gw_11_26 rfl rfl hd_Mo_back ⟨Nat.le_of_ble_eq_true rfl, Nat.le_of_ble_eq_true rfl⟩) aw_p0 rfl rfl hl.1 rfl (lv_room (Nat.le_of_ble_eq_true rfl)) d_Mo_on_246 ⟨Nat.le_of_ble_eq_true rfl, Nat.le_of_ble_eq_true rfl⟩).run) (fun x93 hx93 => ?_)
          refine lv_iload hx hb d_Mo_on_249 (lv_at hl 3 rfl) ?_
          refine lv_iadd hx hb d_Mo_on_251 ?_
          refine lv_topi (fun x94 _ => ?_)
          refine lv_aload_n hx hb d_Mo_on_252 rfl (lv_at hl 0 rfl) ?_
          obtain ⟨x96, o97, hw98, he95⟩ := rd_M0 hSh
          refine va_get (C := R_Mo) (T := T_Mo) (N := 19) (v := .ref (aw_m ad 15)) hx hb hG in_Mo hown hK hP 67 he95 rfl 17 (by decide) (hG _ gw_9_42) (fun _ h => h) rfl d_Mo_on_253 ?_
          refine lv_iload hx hb d_Mo_on_256 (lv_at hl 5 rfl) ?_
          obtain ⟨f100, he99⟩ := rd_M15 hSh
          refine aw_ild hx hb hK hP 82 0 he99 rfl (k := t) (by omega) (by decide) d_Mo_on_258 ?_
          refine lv_topi (fun x101 _ => ?_)
          refine lv_ixor hx hb d_Mo_on_259 ?_
          refine lv_topi (fun x102 _ => ?_)
          refine lv_istore_n hx hb d_Mo_on_260 rfl hl (by decide) rfl (fun ls hl => ?_)
          have hl : lv_has ls 8 [(3, .int x102), (0, .ref (aw_m ad 0)), (1, .long b), (4, .int x91), (5, .int (nI 0)), (6, .int (nI t))] := hl
          refine lv_iload hx hb d_Mo_on_261 (lv_at hl 3 rfl) ?_
          refine lv_iconst (v := nI 3) hx hb d_Mo_on_263 (by decide +kernel) ?_
          refine aw_ci ((va_runS (As := [.int x91, .int (nI 3)]) (rest := []) ⟨hx, hb, hml, hown, hG⟩ (k_Mo_turn l x91 (nI 3)) (aw_wS 2 hG gw_11_24 gw_11_22 gw_0_10 gw_11_23 rfl rfl hd_Mo_turn ⟨Nat.le_of_ble_eq_true rfl, Nat.le_of_ble_eq_true rfl⟩) aw_p0 rfl rfl hl.1 rfl (lv_room (Nat.le_of_ble_eq_true rfl)) d_Mo_on_264 ⟨Nat.le_of_ble_eq_true rfl, Nat.le_of_ble_eq_true rfl⟩).run) (fun x103 hx103 => ?_)
          refine lv_iload_n hx hb d_Mo_on_267 rfl (lv_at hl 0 rfl) ?_
          refine lv_ixor hx hb d_Mo_on_268 ?_
          refine lv_topi (fun x104 _ => ?_)
          refine lv_istore hx hb d_Mo_on_269 hl (by decide) rfl (fun ls hl => ?_)
          have hl : lv_has ls 8 [(4, .int x104), (3, .int x102), (0, .ref (aw_m ad 0)), (1, .long b), (5, .int (nI 0)), (6, .int (nI t))] := hl
          refine lv_iinc (k := 5) (v := nI (t + 1)) hx hb d_Mo_on_271 hl rfl (aw_inc t 1 1 (by decide +kernel)) (by decide) rfl (fun ls hl => ?_)
          have hl : lv_has ls 8 [(6, .int (nI (t + 1))), (4, .int x104), (3, .int x102), (0, .ref (aw_m ad 0)), (1, .long b), (5, .int (nI 0))] := hl
          refine lv_goto (tgt := 236) hx hb d_Mo_on_274 (by decide) ?_
          have hl := lv_sub hl (l' := [(0, .ref (aw_m ad 0)), (1, .long b), (3, .int x102), (4, .int x104), (5, .int (nI 0)), (6, .int (nI (t + 1)))]) [3, 4, 2, 1, 5, 0] rfl
          exact ih (t + 1) x102 x104 H locs L ls (by omega) hP hD hSh hS (by first | exact hl | simpa [Nat.add_assoc, Nat.mul_add, Nat.add_comm] using hl)
      have hl := lv_sub hl (l' := [(0, .ref (aw_m ad 0)), (1, .long b), (3, .int x1), (4, .int x2), (5, .int (nI 0)), (6, .int (nI 0))]) [4, 5, 3, 2, 1, 0] rfl
      exact L236 27 0 x1 x2 _ _ _ ls (by omega) hP hD hSh hS (by first | exact hl | simpa using hl)
    · refine aw_ti (y := nI 3) (by rw [ek10, hs7]) ?_
      refine lv_tableIn (tgt := 284) (off := 268) hx hb d_Mo_on_16 (by decide +kernel) (by decide +kernel) (by decide +kernel) (by decide) ?_
      refine lv_iconst (v := nI 0) hx hb d_Mo_on_284 (by decide +kernel) ?_
      refine lv_istore hx hb d_Mo_on_285 hl (by decide) rfl (fun ls hl => ?_)
      have hl : lv_has ls 8 [(6, .int (nI 0)), (5, .int (nI 0)), (4, .int x2), (3, .int x1), (0, .ref (aw_m ad 0)), (1, .long b)] := hl
      have L287 : ∀ (d t : Nat) (x105 : Int32) (x106 : Int32) (H : Heap) (locs : List Loc) (L : va_W) (ls : Array Slot), t + d = 44 → va_P D aw_C L H → va_D (aw_Z N0) L → aw_Sh g ad G M F L → va_S (aw_Z N0) s.heap H locs → lv_has ls 8 [(0, .ref (aw_m ad 0)), (1, .long b), (3, .int x105), (4, .int x106), (5, .int (nI 0)), (6, .int (nI t))] → W p l e (headSpec ws_Mo_on rm_Mo_on).room s m ([.ref (aw_m ad 0), .long b] : List Value).toArray below meth c H locs 0 0 (MQ below (va_Ql (fun r (_ : Unit) => True) (fun (_ : Unit) t => aw_H D g ad G M F N0 t.heap) (aw_Z N0)) ([.ref (aw_m ad 0), .long b] : List Value).toArray s 0 0 (aw_Z N0)) (F0 m 287 ls []) := by
        clear hP hD hSh hS
        clear hl
        intro d
        induction d with
        | zero => 
          intro t x105 x106 H locs L ls ht0 hP hD hSh hS hl
          refine lv_iload hx hb d_Mo_on_287 (lv_at hl 5 rfl) ?_
          refine lv_bipush (v := nI 44) hx hb d_Mo_on_289 (by decide +kernel) ?_
          refine lv_icmp_ge (tgt := 337) hx hb d_Mo_on_291 (by decide) (fun _ => ?_) (fun h => absurd (show nI 44 ≤ nI t from (nI_leI (by omega) (by omega)).mpr (by omega)) h)
          refine lv_iload_n hx hb d_Mo_on_337 rfl (lv_at hl 2 rfl) ?_
          refine lv_iload hx hb d_Mo_on_338 (lv_at hl 3 rfl) ?_
          refine aw_cl ((va_runS (As := [.int x105, .int x106]) (rest := []) ⟨hx, hb, hml, hown, hG⟩ (k_Mo_joined l x105 x106) (aw_wS 2 hG gw_11_43 gw_11_41 gw_0_10 gw_11_42 rfl rfl hd_Mo_joined ⟨Nat.le_of_ble_eq_true rfl, Nat.le_of_ble_eq_true rfl⟩) aw_p0 rfl rfl hl.1 rfl (lv_room (Nat.le_of_ble_eq_true rfl)) d_Mo_on_340 ⟨Nat.le_of_ble_eq_true rfl, Nat.le_of_ble_eq_true rfl⟩).run) (fun y107 hy107 => ?_)
          exact W.lret hx hb hr (fun t ht hW => ⟨⟨_, (), rfl, trivial, aw_Hr ht hP hD hSh⟩, hS.F ht⟩) hS.2.2 d_Mo_on_343
        | succ d ih => 
          intro t x105 x106 H locs L ls ht0 hP hD hSh hS hl
          refine lv_iload hx hb d_Mo_on_287 (lv_at hl 5 rfl) ?_
          refine lv_bipush (v := nI 44) hx hb d_Mo_on_289 (by decide +kernel) ?_
          refine lv_icmp_ge (tgt := 337) hx hb d_Mo_on_291 (by decide) (fun h => absurd h (show ¬ nI 44 ≤ nI t from fun h9 => absurd ((nI_leI (by omega) (by omega)).mp h9) (by omega))) (fun _ => ?_)
          refine lv_iload_n hx hb d_Mo_on_294 rfl (lv_at hl 2 rfl) ?_
          refine lv_istore hx hb d_Mo_on_295 hl (by decide) rfl (fun ls hl => ?_)
          have hl : lv_has ls 8 [(7, .int x105), (0, .ref (aw_m ad 0)), (1, .long b), (3, .int x105), (4, .int x106), (5, .int (nI 0)), (6, .int (nI t))] := hl
          refine lv_iload hx hb d_Mo_on_297 (lv_at hl 4 rfl) ?_
          refine lv_iload_n hx hb d_Mo_on_299 rfl (lv_at hl 3 rfl) ?_
          refine lv_iconst (v := nI 1) hx hb d_Mo_on_300 (by decide +kernel) ?_
          refine aw_ci ((va_runS (As := [.int x105, .int (nI 1)]) (rest := [.int x106]) ⟨hx, hb, hml, hown, hG⟩ (k_Mo_turn l x105 (nI 1)) (aw_wS 2 hG gw_11_24 gw_11_22 gw_0_10 gw_11_23 rfl rfl hd_Mo_turn ⟨Nat.le_of_ble_eq_true rfl, Nat.le_of_ble_eq_true rfl⟩) aw_p0 rfl rfl hl.1 rfl (lv_room (Nat.le_of_ble_eq_true rfl)) d_Mo_on_301 ⟨Nat.le_of_ble_eq_true rfl, Nat.le_of_ble_eq_true rfl⟩).run) (fun x108 hx108 => ?_)
          refine lv_iload_n hx hb d_Mo_on_304 rfl (lv_at hl 3 rfl) ?_
          refine lv_bipush (v := nI 8) hx hb d_Mo_on_305 (by decide +kernel) ?_
          refine aw_ci ((va_runS (As := [.int x105, .int (nI 8)]) (rest := [.int x108, .int x106]) ⟨hx, hb, hml, hown, hG⟩ (k_Mo_turn l x105 (nI 8)) (aw_wS 2 hG gw_11_24 gw_11_22 gw_0_10 gw_11_23 rfl rfl hd_Mo_turn ⟨Nat.le_of_ble_eq_true rfl, Nat.le_of_ble_eq_true rfl⟩) aw_p0 rfl rfl hl.1 rfl (lv_room (Nat.le_of_ble_eq_true rfl)) d_Mo_on_307 ⟨Nat.le_of_ble_eq_true rfl, Nat.le_of_ble_eq_true rfl⟩).run) (fun x109 hx109 => ?_)
          refine lv_iand hx hb d_Mo_on_310 ?_
          refine lv_topi (fun x110 _ => ?_)
          refine lv_ixor hx hb d_Mo_on_311 ?_
          refine lv_topi (fun x111 _ => ?_)
          refine lv_iload_n hx hb d_Mo_on_312 rfl (lv_at hl 3 rfl) ?_
          refine lv_iconst (v := nI 2) hx hb d_Mo_on_313 (by decide +kernel) ?_
          refine aw_ci ((va_runS (As := [.int x105, .int (nI 2)]) (rest := [.int x111]) ⟨hx, hb, hml, hown, hG⟩ (k_Mo_turn l x105 (nI 2)) (aw_wS 2 hG gw_11_24 gw_11_22 gw_0_10 gw_11_23 rfl rfl hd_Mo_turn ⟨Nat.le_of_ble_eq_true rfl, Nat.le_of_ble_eq_true rfl⟩) aw_p0 rfl rfl hl.1 rfl (lv_room (Nat.le_of_ble_eq_true rfl)) d_Mo_on_314 ⟨Nat.le_of_ble_eq_true rfl, Nat.le_of_ble_eq_true rfl⟩).run) (fun x112 hx112 => ?_)
          refine lv_ixor hx hb d_Mo_on_317 ?_
          refine lv_topi (fun x113 _ => ?_)
          refine lv_aload_n hx hb d_Mo_on_318 rfl (lv_at hl 1 rfl) ?_
          obtain ⟨x115, o116, hw117, he114⟩ := rd_M0 hSh
          refine va_get (C := R_Mo) (T := T_Mo) (N := 19) (v := .ref (aw_m ad 15)) hx hb hG in_Mo hown hK hP 67 he114 rfl 17 (by decide) (hG _ gw_9_42) (fun _ h => h) rfl d_Mo_on_319 ?_
          refine lv_iload hx hb d_Mo_on_322 (lv_at hl 6 rfl) ?_
          obtain ⟨f119, he118⟩ := rd_M15 hSh
          refine aw_ild hx hb hK hP 82 0 he118 rfl (k := t) (by omega) (by decide) d_Mo_on_324 ?_
          refine lv_topi (fun x120 _ => ?_)
          refine lv_ixor hx hb d_Mo_on_325 ?_
          refine lv_topi (fun x121 _ => ?_)
          refine lv_istore_n hx hb d_Mo_on_326 rfl hl (by decide) rfl (fun ls hl => ?_)
          have hl : lv_has ls 8 [(3, .int x121), (7, .int x105), (0, .ref (aw_m ad 0)), (1, .long b), (4, .int x106), (5, .int (nI 0)), (6, .int (nI t))] := hl
          refine lv_iload hx hb d_Mo_on_327 (lv_at hl 1 rfl) ?_
          refine lv_istore hx hb d_Mo_on_329 hl (by decide) rfl (fun ls hl => ?_)
          have hl : lv_has ls 8 [(4, .int x105), (3, .int x121), (7, .int x105), (0, .ref (aw_m ad 0)), (1, .long b), (5, .int (nI 0)), (6, .int (nI t))] := hl
          refine lv_iinc (k := 6) (v := nI (t + 1)) hx hb d_Mo_on_331 hl rfl (aw_inc t 1 1 (by decide +kernel)) (by decide) rfl (fun ls hl => ?_)
          have hl : lv_has ls 8 [(6, .int (nI (t + 1))), (4, .int x105), (3, .int x121), (7, .int x105), (0, .ref (aw_m ad 0)), (1, .long b), (5, .int (nI 0))] := hl
          refine lv_goto (tgt := 287) hx hb d_Mo_on_334 (by decide) ?_
          have hl := lv_sub hl (l' := [(0, .ref (aw_m ad 0)), (1, .long b), (3, .int x121), (4, .int x105), (5, .int (nI 0)), (6, .int (nI (t + 1)))]) [4, 5, 2, 1, 6, 0] rfl
          exact ih (t + 1) x121 x105 H locs L ls (by omega) hP hD hSh hS (by first | exact hl | simpa [Nat.add_assoc, Nat.mul_add, Nat.add_comm] using hl)
      have hl := lv_sub hl (l' := [(0, .ref (aw_m ad 0)), (1, .long b), (3, .int x1), (4, .int x2), (5, .int (nI 0)), (6, .int (nI 0))]) [4, 5, 3, 2, 1, 0] rfl
      exact L287 44 0 x1 x2 _ _ _ ls (by omega) hP hD hSh hS (by first | exact hl | simpa using hl)
abbrev ws_Mo_off : List Cond := Cond.code y_Mo_off b_Mo_off 8 (some .long) :: aw_G
abbrev rm_Mo_off : Room := { frames := 3, cells := 0, slots := 0, locals := 78 }
set_option maxHeartbeats 4000000 in
set_option maxRecDepth 100000 in
theorem k_Mo_off (l : Launch) (D : va_G) (g : Nat → ClassId) (ad : Nat → Nat) (G M : Nat → Nat × Nat) (F : Int32) (N0 : Nat) (b : Int64) : Met l y_Mo_off ws_Mo_off rm_Mo_off (va_Pc ([.ref (aw_m ad 0), .long b] : List Value) (aw_B D g ad G M F N0)) (va_Ql (fun r (_ : Unit) => True) (fun (_ : Unit) t => aw_H D g ad G M F N0 t.heap) (aw_Z N0)) 0 0 (aw_Z N0) := by
  refine Met.ofW (cc := b_Mo_off) (maxL := 8) (ret := (some .long)) (by decide) rfl ?_
  intro p e s m args below meth c s₁ B hml hv
  obtain ⟨rfl, ⟨L, hP, hD, hSh⟩, hU⟩ := hv
  have hx := B.exec
  have hb := B.bytes
  have hr := B.returns
  have hG : ∀ w ∈ aw_G, w.before _ s = true := fun w h => atoms_spec (ws := ws_Mo_off) B.pre w (List.mem_cons_of_mem _ h)
  have hown : s.vm.findClass "RuleCiphersModel" = some m.cls := findClass_of_methodNamed B.named
  have hlocks := B.notSynchronized
  have hE := hU.1
  have hK := hE.1
  have hN := hE.2.1
  have hS : va_S (aw_Z N0) s.heap s.heap [] := va_S.rf
  have hl := lv_entry ([.ref (aw_m ad 0), .long b] : List Value) (n := 8) (Nat.le_of_ble_eq_true rfl)
  rw [lg_entry_eq]
  generalize (lg_sl ([.ref (aw_m ad 0), .long b] : List Value) ++ List.replicate (8 - (lg_sl ([.ref (aw_m ad 0), .long b] : List Value)).length) Slot.unset).toArray = ls at hl ⊢
  have hl : lv_has ls 8 [(0, .ref (aw_m ad 0)), (1, .long b)] := hl
  refine lv_lload_n hx hb d_Mo_off_0 rfl (lv_at hl 1 rfl) ?_
  refine aw_ci ((va_runS (As := [.long b]) (rest := []) ⟨hx, hb, hml, hown, hG⟩ (k_Mo_upper l b) (aw_wS 1 hG gw_11_17 gw_11_15 gw_0_10 gw_11_16 rfl rfl hd_Mo_upper ⟨Nat.le_of_ble_eq_true rfl, Nat.le_of_ble_eq_true rfl⟩) aw_p0 rfl rfl hl.1 rfl (lv_room (Nat.le_of_ble_eq_true rfl)) d_Mo_off_1 ⟨Nat.le_of_ble_eq_true rfl, Nat.le_of_ble_eq_true rfl⟩).run) (fun x1 hx1 => ?_)
  refine lv_istore_n hx hb d_Mo_off_4 rfl hl (by decide) rfl (fun ls hl => ?_)
  have hl : lv_has ls 8 [(3, .int x1), (0, .ref (aw_m ad 0)), (1, .long b)] := hl
  refine lv_lload_n hx hb d_Mo_off_5 rfl (lv_at hl 2 rfl) ?_
  refine lv_l2i hx hb d_Mo_off_6 rfl ?_
  refine lv_topi (fun x2 _ => ?_)
  refine lv_istore hx hb d_Mo_off_7 hl (by decide) rfl (fun ls hl => ?_)
  have hl : lv_has ls 8 [(4, .int x2), (3, .int x1), (0, .ref (aw_m ad 0)), (1, .long b)] := hl
  refine lv_ldc (v := (-957401312)) hx hb hown (hG _ gw_11_40) d_Mo_off_9 ?_
  refine lv_istore hx hb d_Mo_off_11 hl (by decide) rfl (fun ls hl => ?_)
  have hl : lv_has ls 8 [(5, .int ((-957401312))), (4, .int x2), (3, .int x1), (0, .ref (aw_m ad 0)), (1, .long b)] := hl
  refine lv_aload_n hx hb d_Mo_off_13 rfl (lv_at hl 3 rfl) ?_
  obtain ⟨x4, o5, hw6, he3⟩ := rd_M0 hSh
  refine va_get (C := R_Mo) (T := T_Mo) (N := 19) (v := .int x4) hx hb hG in_Mo hown hK hP 67 he3 rfl 15 (by decide) (hG _ gw_9_40) (fun _ h => h) rfl d_Mo_off_14 ?_
  rcases aw_sw x4 (n := 4) (by decide) with hs7 | hs7
  · refine lv_tableOut (tgt := 344) hx hb d_Mo_off_17 (by first | exact hs7 | omega) (by decide) ?_
    refine lv_aload_n hx hb d_Mo_off_344 rfl (lv_at hl 3 rfl) ?_
    refine lv_lload_n hx hb d_Mo_off_345 rfl (lv_at hl 4 rfl) ?_
    obtain ⟨_, _, _, he8⟩ := rd_M0 hSh
    refine va_calll (va_runV (As := [.long b]) (rest := []) ⟨hx, hb, hml, hown, hG⟩ (k_Mo_offFour l D g ad G M F N0 b) (aw_wV 1 hG gw_11_47 gw_11_45 gw_0_10 gw_11_46 gw_p_17 rfl rfl hd_Mo_offFour ⟨Nat.le_of_ble_eq_true rfl, Nat.le_of_ble_eq_true rfl⟩) (aw_qV (va_recv hK hP rfl he8) hP hD hSh hU hS) rfl rfl hl.1 rfl (lv_room (Nat.le_of_ble_eq_true rfl)) d_Mo_off_346 ⟨Nat.le_of_ble_eq_true rfl, Nat.le_of_ble_eq_true rfl⟩) hS (fun _ _ h => h) (fun _ h => h) (fun y9 u8 t8 H locs ht _ _ hB _ _ hS => ?_)
    obtain ⟨L, hP, hD, hSh⟩ := hB
    rw [ht] at hP
    clear ht
    exact W.lret hx hb hr (fun t ht hW => ⟨⟨_, (), rfl, trivial, aw_Hr ht hP hD hSh⟩, hS.F ht⟩) hS.2.2 d_Mo_off_349
  · obtain ⟨k10, hk10, ek10⟩ := hs7
    rcases (by omega : k10 = 0 ∨ k10 = 1 ∨ k10 = 2 ∨ k10 = 3) with hs7 | hs7 | hs7 | hs7
    · refine aw_ti (y := nI 0) (by rw [ek10, hs7]) ?_
      refine lv_tableIn (tgt := 48) (off := 31) hx hb d_Mo_off_17 (by decide +kernel) (by decide +kernel) (by decide +kernel) (by decide) ?_
      refine lv_iload_n hx hb d_Mo_off_48 rfl (lv_at hl 2 rfl) ?_
      refine aw_ci ((va_runS (As := [.int x1]) (rest := []) ⟨hx, hb, hml, hown, hG⟩ (k_Mo_swapped l x1) (aw_wS 1 hG gw_11_20 gw_11_18 gw_0_10 gw_11_19 rfl rfl hd_Mo_swapped ⟨Nat.le_of_ble_eq_true rfl, Nat.le_of_ble_eq_true rfl⟩) aw_p0 rfl rfl hl.1 rfl (lv_room (Nat.le_of_ble_eq_true rfl)) d_Mo_off_49 ⟨Nat.le_of_ble_eq_true rfl, Nat.le_of_ble_eq_true rfl⟩).run) (fun x11 hx11 => ?_)
      refine lv_istore_n hx hb d_Mo_off_52 rfl hl (by decide) rfl (fun ls hl => ?_)
      have hl : lv_has ls 8 [(3, .int x11), (5, .int ((-957401312))), (4, .int x2), (0, .ref (aw_m ad 0)), (1, .long b)] := hl
      refine lv_iload hx hb d_Mo_off_53 (lv_at hl 2 rfl) ?_
      refine aw_ci ((va_runS (As := [.int x2]) (rest := []) ⟨hx, hb, hml, hown, hG⟩ (k_Mo_swapped l x2) (aw_wS 1 hG gw_11_20 gw_11_18 gw_0_10 gw_11_19 rfl rfl hd_Mo_swapped ⟨Nat.le_of_ble_eq_true rfl, Nat.le_of_ble_eq_true rfl⟩) aw_p0 rfl rfl hl.1 rfl (lv_room (Nat.le_of_ble_eq_true rfl)) d_Mo_off_55 ⟨Nat.le_of_ble_eq_true rfl, Nat.le_of_ble_eq_true rfl⟩).run) (fun x12 hx12 => ?_)
      refine lv_istore hx hb d_Mo_off_58 hl (by decide) rfl (fun ls hl => ?_)
      have hl : lv_has ls 8 [(4, .int x12), (3, .int x11), (5, .int ((-957401312))), (0, .ref (aw_m ad 0)), (1, .long b)] := hl
      refine lv_bipush (v := nI 12) hx hb d_Mo_off_60 (by decide +kernel) ?_
      refine lv_istore hx hb d_Mo_off_62 hl (by decide) rfl (fun ls hl => ?_)
      have hl : lv_has ls 8 [(6, .int (nI 12)), (4, .int x12), (3, .int x11), (5, .int ((-957401312))), (0, .ref (aw_m ad 0)), (1, .long b)] := hl
      have L64 : ∀ (d t : Nat) (x13 : Int32) (x14 : Int32) (H : Heap) (locs : List Loc) (L : va_W) (ls : Array Slot), t + d = 12 → va_P D aw_C L H → va_D (aw_Z N0) L → aw_Sh g ad G M F L → va_S (aw_Z N0) s.heap H locs → lv_has ls 8 [(0, .ref (aw_m ad 0)), (1, .long b), (3, .int x13), (4, .int x14), (5, .int ((-957401312))), (6, .int (nI d))] → W p l e (headSpec ws_Mo_off rm_Mo_off).room s m ([.ref (aw_m ad 0), .long b] : List Value).toArray below meth c H locs 0 0 (MQ below (va_Ql (fun r (_ : Unit) => True) (fun (_ : Unit) t => aw_H D g ad G M F N0 t.heap) (aw_Z N0)) ([.ref (aw_m ad 0), .long b] : List Value).toArray s 0 0 (aw_Z N0)) (F0 m 64 ls []) := by
        clear hP hD hSh hS
        clear hl
        intro d
        induction d with
        | zero => 
          intro t x13 x14 H locs L ls ht0 hP hD hSh hS hl
          refine lv_iload hx hb d_Mo_off_64 (lv_at hl 5 rfl) ?_
          refine lv_if_le (tgt := 117) hx hb d_Mo_off_66 (by decide) (fun _ => ?_) (fun h => absurd (show nI 0 ≤ nI 0 from (nI_leI (by omega) (by omega)).mpr (by omega)) h)
          refine lv_iload_n hx hb d_Mo_off_117 rfl (lv_at hl 2 rfl) ?_
          refine lv_aload_n hx hb d_Mo_off_118 rfl (lv_at hl 0 rfl) ?_
          obtain ⟨x16, o17, hw18, he15⟩ := rd_M0 hSh
          refine va_get (C := R_Mo) (T := T_Mo) (N := 19) (v := .ref (aw_m ad 15)) hx hb hG in_Mo hown hK hP 67 he15 rfl 17 (by decide) (hG _ gw_9_42) (fun _ h => h) rfl d_Mo_off_119 ?_
          refine lv_iconst (v := nI 0) hx hb d_Mo_off_122 (by decide +kernel) ?_
          obtain ⟨f20, he19⟩ := rd_M15 hSh
          refine aw_ild hx hb hK hP 82 0 he19 rfl (k := 0) (by omega) (by decide) d_Mo_off_123 ?_
          refine lv_topi (fun x21 _ => ?_)
          refine lv_isub hx hb d_Mo_off_124 ?_
          refine lv_topi (fun x22 _ => ?_)
          refine aw_ci ((va_runS (As := [.int x22]) (rest := []) ⟨hx, hb, hml, hown, hG⟩ (k_Mo_swapped l x22) (aw_wS 1 hG gw_11_20 gw_11_18 gw_0_10 gw_11_19 rfl rfl hd_Mo_swapped ⟨Nat.le_of_ble_eq_true rfl, Nat.le_of_ble_eq_true rfl⟩) aw_p0 rfl rfl hl.1 rfl (lv_room (Nat.le_of_ble_eq_true rfl)) d_Mo_off_125 ⟨Nat.le_of_ble_eq_true rfl, Nat.le_of_ble_eq_true rfl⟩).run) (fun x23 hx23 => ?_)
          refine lv_iload hx hb d_Mo_off_128 (lv_at hl 3 rfl) ?_
          refine lv_aload_n hx hb d_Mo_off_130 rfl (lv_at hl 0 rfl) ?_
          obtain ⟨x25, o26, hw27, he24⟩ := rd_M0 hSh
          refine va_get (C := R_Mo) (T := T_Mo) (N := 19) (v := .ref (aw_m ad 15)) hx hb hG in_Mo hown hK hP 67 he24 rfl 17 (by decide) (hG _ gw_9_42) (fun _ h => h) rfl d_Mo_off_131 ?_
          refine lv_iconst (v := nI 1) hx hb d_Mo_off_134 (by decide +kernel) ?_
          obtain ⟨f29, he28⟩ := rd_M15 hSh
          refine aw_ild hx hb hK hP 82 0 he28 rfl (k := 1) (by omega) (by decide) d_Mo_off_135 ?_
          refine lv_topi (fun x30 _ => ?_)
          refine lv_isub hx hb d_Mo_off_136 ?_
          refine lv_topi (fun x31 _ => ?_)
          refine aw_ci ((va_runS (As := [.int x31]) (rest := [.int x23]) ⟨hx, hb, hml, hown, hG⟩ (k_Mo_swapped l x31) (aw_wS 1 hG gw_11_20 gw_11_18 gw_0_10 gw_11_19 rfl rfl hd_Mo_swapped ⟨Nat.le_of_ble_eq_true rfl, Nat.le_of_ble_eq_true rfl⟩) aw_p0 rfl rfl hl.1 rfl (lv_room (Nat.le_of_ble_eq_true rfl)) d_Mo_off_137 ⟨Nat.le_of_ble_eq_true rfl, Nat.le_of_ble_eq_true rfl⟩).run) (fun x32 hx32 => ?_)
          refine aw_cl ((va_runS (As := [.int x23, .int x32]) (rest := []) ⟨hx, hb, hml, hown, hG⟩ (k_Mo_joined l x23 x32) (aw_wS 2 hG gw_11_43 gw_11_41 gw_0_10 gw_11_42 rfl rfl hd_Mo_joined ⟨Nat.le_of_ble_eq_true rfl, Nat.le_of_ble_eq_true rfl⟩) aw_p0 rfl rfl hl.1 rfl (lv_room (Nat.le_of_ble_eq_true rfl)) d_Mo_off_140 ⟨Nat.le_of_ble_eq_true rfl, Nat.le_of_ble_eq_true rfl⟩).run) (fun y33 hy33 => ?_)
          exact W.lret hx hb hr (fun t ht hW => ⟨⟨_, (), rfl, trivial, aw_Hr ht hP hD hSh⟩, hS.F ht⟩) hS.2.2 d_Mo_off_143
        | succ d ih => 
          intro t x13 x14 H locs L ls ht0 hP hD hSh hS hl
          refine lv_iload hx hb d_Mo_off_64 (lv_at hl 5 rfl) ?_
          refine lv_if_le (tgt := 117) hx hb d_Mo_off_66 (by decide) (fun h => absurd h (show ¬ nI (d + 1) ≤ nI 0 from fun h9 => absurd ((nI_leI (by omega) (by omega)).mp h9) (by omega))) (fun _ => ?_)
          refine lv_iload hx hb d_Mo_off_69 (lv_at hl 3 rfl) ?_
          refine lv_aload_n hx hb d_Mo_off_71 rfl (lv_at hl 0 rfl) ?_
          obtain ⟨x35, o36, hw37, he34⟩ := rd_M0 hSh
          refine va_get (C := R_Mo) (T := T_Mo) (N := 19) (v := .ref (aw_m ad 15)) hx hb hG in_Mo hown hK hP 67 he34 rfl 17 (by decide) (hG _ gw_9_42) (fun _ h => h) rfl d_Mo_off_72 ?_
          refine lv_iconst (v := nI 2) hx hb d_Mo_off_75 (by decide +kernel) ?_
          refine lv_iload hx hb d_Mo_off_76 (lv_at hl 5 rfl) ?_
          refine lv_imul hx hb d_Mo_off_78 ?_
          refine aw_ti (pk_mul 2 (d + 1)) ?_
          refine lv_iconst (v := nI 1) hx hb d_Mo_off_79 (by decide +kernel) ?_
          refine lv_iadd hx hb d_Mo_off_80 ?_
          refine aw_ti (nI_add (2 * (d + 1)) 1) ?_
          obtain ⟨f39, he38⟩ := rd_M15 hSh
          refine aw_ild hx hb hK hP 82 0 he38 rfl (k := ((2 * (d + 1)) + 1)) (by omega) (by decide) d_Mo_off_81 ?_
          refine lv_topi (fun x40 _ => ?_)
          refine lv_isub hx hb d_Mo_off_82 ?_
          refine lv_topi (fun x41 _ => ?_)
          refine lv_iload_n hx hb d_Mo_off_83 rfl (lv_at hl 2 rfl) ?_
          refine aw_ci ((va_runS (As := [.int x41, .int x13]) (rest := []) ⟨hx, hb, hml, hown, hG⟩ (k_Mo_back l x41 x13) (aw_wS 2 hG gw_11_27 gw_11_25 gw_0_10 gw_11_26 rfl rfl hd_Mo_back ⟨Nat.le_of_ble_eq_true rfl, Nat.le_of_ble_eq_true rfl⟩) aw_p0 rfl rfl hl.1 rfl (lv_room (Nat.le_of_ble_eq_true rfl)) d_Mo_off_84 ⟨Nat.le_of_ble_eq_true rfl, Nat.le_of_ble_eq_true rfl⟩).run) (fun x42 hx42 => ?_)
          refine lv_iload_n hx hb d_Mo_off_87 rfl (lv_at hl 2 rfl) ?_
          refine lv_ixor hx hb d_Mo_off_88 ?_
          refine lv_topi (fun x43 _ => ?_)
          refine lv_istore hx hb d_Mo_off_89 hl (by decide) rfl (fun ls hl => ?_)
          have hl : lv_has ls 8 [(4, .int x43), (0, .ref (aw_m ad 0)), (1, .long b), (3, .int x13), (5, .int ((-957401312))), (6, .int (nI (d + 1)))] := hl
          refine lv_iload_n hx hb d_Mo_off_91 rfl (lv_at hl 3 rfl) ?_
          refine lv_aload_n hx hb d_Mo_off_92 rfl (lv_at hl 1 rfl) ?_
          obtain ⟨x45, o46, hw47, he44⟩ := rd_M0 hSh
          refine va_get (C := R_Mo) (T := T_Mo) (N := 19) (v := .ref (aw_m ad 15)) hx hb hG in_Mo hown hK hP 67 he44 rfl 17 (by decide) (hG _ gw_9_42) (fun _ h => h) rfl d_Mo_off_93 ?_
          refine lv_iconst (v := nI 2) hx hb d_Mo_off_96 (by decide +kernel) ?_
          refine lv_iload hx hb d_Mo_off_97 (lv_at hl 5 rfl) ?_
          refine lv_imul hx hb d_Mo_off_99 ?_
          refine aw_ti (pk_mul 2 (d + 1)) ?_
          obtain ⟨f49, he48⟩ := rd_M15 hSh
          refine aw_ild hx hb hK hP 82 0 he48 rfl (k := (2 * (d + 1))) (by omega) (by decide) d_Mo_off_100 ?_
          refine lv_topi (fun x50 _ => ?_)
          refine lv_isub hx hb d_Mo_off_101 ?_
          refine lv_topi (fun x51 _ => ?_)
          refine lv_iload hx hb d_Mo_off_102 (lv_at hl 0 rfl) ?_
          refine aw_ci ((va_runS (As := [.int x51, .int x43]) (rest := []) ⟨hx, hb, hml, hown, hG⟩ (k_Mo_back l x51 x43) (aw_wS 2 hG gw_11_27 gw_11_25 gw_0_10 gw_11_26 rfl rfl hd_Mo_back ⟨Nat.le_of_ble_eq_true rfl, Nat.le_of_ble_eq_true rfl⟩) aw_p0 rfl rfl hl.1 rfl (lv_room (Nat.le_of_ble_eq_true rfl)) d_Mo_off_104 ⟨Nat.le_of_ble_eq_true rfl, Nat.le_of_ble_eq_true rfl⟩).run) (fun x52 hx52 => ?_)
          refine lv_iload hx hb d_Mo_off_107 (lv_at hl 0 rfl) ?_
          refine lv_ixor hx hb d_Mo_off_109 ?_
          refine lv_topi (fun x53 _ => ?_)
          refine lv_istore_n hx hb d_Mo_off_110 rfl hl (by decide) rfl (fun ls hl => ?_)
          have hl : lv_has ls 8 [(3, .int x53), (4, .int x43), (0, .ref (aw_m ad 0)), (1, .long b), (5, .int ((-957401312))), (6, .int (nI (d + 1)))] := hl
          refine lv_iinc (k := 5) (v := nI d) hx hb d_Mo_off_111 hl rfl (aw_dec d) (by decide) rfl (fun ls hl => ?_)
          have hl : lv_has ls 8 [(6, .int (nI d)), (3, .int x53), (4, .int x43), (0, .ref (aw_m ad 0)), (1, .long b), (5, .int ((-957401312)))] := hl
          refine lv_goto (tgt := 64) hx hb d_Mo_off_114 (by decide) ?_
          have hl := lv_sub hl (l' := [(0, .ref (aw_m ad 0)), (1, .long b), (3, .int x53), (4, .int x43), (5, .int ((-957401312))), (6, .int (nI d))]) [3, 4, 1, 2, 5, 0] rfl
          exact ih (t + 1) x53 x43 H locs L ls (by omega) hP hD hSh hS (by first | exact hl | simpa [Nat.add_assoc, Nat.mul_add, Nat.add_comm] using hl)
      have hl := lv_sub hl (l' := [(0, .ref (aw_m ad 0)), (1, .long b), (3, .int x11), (4, .int x12), (5, .int ((-957401312))), (6, .int (nI 12))]) [4, 5, 2, 1, 3, 0] rfl
      exact L64 12 0 x11 x12 _ _ _ ls (by omega) hP hD hSh hS (by first | exact hl | simpa using hl)
    · refine aw_ti (y := nI 1) (by rw [ek10, hs7]) ?_
      refine lv_tableIn (tgt := 144) (off := 127) hx hb d_Mo_off_17 (by decide +kernel) (by decide +kernel) (by decide +kernel) (by decide) ?_
      refine lv_iconst (v := nI 0) hx hb d_Mo_off_144 (by decide +kernel) ?_
      refine lv_istore hx hb d_Mo_off_145 hl (by decide) rfl (fun ls hl => ?_)
      have hl : lv_has ls 8 [(6, .int (nI 0)), (5, .int ((-957401312))), (4, .int x2), (3, .int x1), (0, .ref (aw_m ad 0)), (1, .long b)] := hl
      have L147 : ∀ (d t : Nat) (x54 : Int32) (x55 : Int32) (x56 : Int32) (H : Heap) (locs : List Loc) (L : va_W) (ls : Array Slot), t + d = 32 → va_P D aw_C L H → va_D (aw_Z N0) L → aw_Sh g ad G M F L → va_S (aw_Z N0) s.heap H locs → lv_has ls 8 [(0, .ref (aw_m ad 0)), (1, .long b), (3, .int x54), (4, .int x55), (5, .int x56), (6, .int (nI t))] → W p l e (headSpec ws_Mo_off rm_Mo_off).room s m ([.ref (aw_m ad 0), .long b] : List Value).toArray below meth c H locs 0 0 (MQ below (va_Ql (fun r (_ : Unit) => True) (fun (_ : Unit) t => aw_H D g ad G M F N0 t.heap) (aw_Z N0)) ([.ref (aw_m ad 0), .long b] : List Value).toArray s 0 0 (aw_Z N0)) (F0 m 147 ls []) := by
        clear hP hD hSh hS
        clear hl
        intro d
        induction d with
        | zero => 
          intro t x54 x55 x56 H locs L ls ht0 hP hD hSh hS hl
          refine lv_iload hx hb d_Mo_off_147 (lv_at hl 5 rfl) ?_
          refine lv_bipush (v := nI 32) hx hb d_Mo_off_149 (by decide +kernel) ?_
          refine lv_icmp_ge (tgt := 225) hx hb d_Mo_off_151 (by decide) (fun _ => ?_) (fun h => absurd (show nI 32 ≤ nI t from (nI_leI (by omega) (by omega)).mpr (by omega)) h)
          refine lv_iload_n hx hb d_Mo_off_225 rfl (lv_at hl 2 rfl) ?_
          refine lv_iload hx hb d_Mo_off_226 (lv_at hl 3 rfl) ?_
          refine aw_cl ((va_runS (As := [.int x54, .int x55]) (rest := []) ⟨hx, hb, hml, hown, hG⟩ (k_Mo_joined l x54 x55) (aw_wS 2 hG gw_11_43 gw_11_41 gw_0_10 gw_11_42 rfl rfl hd_Mo_joined ⟨Nat.le_of_ble_eq_true rfl, Nat.le_of_ble_eq_true rfl⟩) aw_p0 rfl rfl hl.1 rfl (lv_room (Nat.le_of_ble_eq_true rfl)) d_Mo_off_228 ⟨Nat.le_of_ble_eq_true rfl, Nat.le_of_ble_eq_true rfl⟩).run) (fun y57 hy57 => ?_)
          exact W.lret hx hb hr (fun t ht hW => ⟨⟨_, (), rfl, trivial, aw_Hr ht hP hD hSh⟩, hS.F ht⟩) hS.2.2 d_Mo_off_231
        | succ d ih => 
          intro t x54 x55 x56 H locs L ls ht0 hP hD hSh hS hl
          refine lv_iload hx hb d_Mo_off_147 (lv_at hl 5 rfl) ?_
          refine lv_bipush (v := nI 32) hx hb d_Mo_off_149 (by decide +kernel) ?_
          refine lv_icmp_ge (tgt := 225) hx hb d_Mo_off_151 (by decide) (fun h => absurd h (show ¬ nI 32 ≤ nI t from fun h9 => absurd ((nI_leI (by omega) (by omega)).mp h9) (by omega))) (fun _ => ?_)
          refine lv_iload hx hb d_Mo_off_154 (lv_at hl 3 rfl) ?_
          refine lv_iload_n hx hb d_Mo_off_156 rfl (lv_at hl 2 rfl) ?_
          refine lv_iconst (v := nI 4) hx hb d_Mo_off_157 (by decide +kernel) ?_
          refine lv_ishl hx hb d_Mo_off_158 ?_
          refine lv_topi (fun x58 _ => ?_)
          refine lv_iload_n hx hb d_Mo_off_159 rfl (lv_at hl 2 rfl) ?_
          refine lv_iconst (v := nI 5) hx hb d_Mo_off_160 (by decide +kernel) ?_
          refine lv_iushr hx hb d_Mo_off_161 rfl ?_
          refine lv_topi (fun x59 _ => ?_)
          refine lv_ixor hx hb d_Mo_off_162 ?_
          refine lv_topi (fun x60 _ => ?_)
          refine lv_iload_n hx hb d_Mo_off_163 rfl (lv_at hl 2 rfl) ?_
          refine lv_iadd hx hb d_Mo_off_164 ?_
          refine lv_topi (fun x61 _ => ?_)
          refine lv_iload hx hb d_Mo_off_165 (lv_at hl 4 rfl) ?_
          refine lv_aload_n hx hb d_Mo_off_167 rfl (lv_at hl 0 rfl) ?_
          obtain ⟨x63, o64, hw65, he62⟩ := rd_M0 hSh
          refine va_get (C := R_Mo) (T := T_Mo) (N := 19) (v := .ref (aw_m ad 15)) hx hb hG in_Mo hown hK hP 67 he62 rfl 17 (by decide) (hG _ gw_9_42) (fun _ h => h) rfl d_Mo_off_168 ?_
          refine lv_iload hx hb d_Mo_off_171 (lv_at hl 4 rfl) ?_
          refine lv_bipush (v := nI 11) hx hb d_Mo_off_173 (by decide +kernel) ?_
          refine lv_iushr hx hb d_Mo_off_175 rfl ?_
          refine lv_topi (fun x66 _ => ?_)
          refine lv_iconst (v := nI 3) hx hb d_Mo_off_176 (by decide +kernel) ?_
          refine lv_iand hx hb d_Mo_off_177 ?_
          obtain ⟨k67, hk67, ek67⟩ := pk_andE x66 (m := nI 3) 2 (by decide +kernel)
          refine aw_ti ek67 ?_
          obtain ⟨f69, he68⟩ := rd_M15 hSh
          refine aw_ild hx hb hK hP 82 0 he68 rfl (k := k67) (by omega) (by decide) d_Mo_off_178 ?_
          refine lv_topi (fun x70 _ => ?_)
          refine lv_iadd hx hb d_Mo_off_179 ?_
          refine lv_topi (fun x71 _ => ?_)
          refine lv_ixor hx hb d_Mo_off_180 ?_
          refine lv_topi (fun x72 _ => ?_)
          refine lv_isub hx hb d_Mo_off_181 ?_
          refine lv_topi (fun x73 _ => ?_)
          refine lv_istore hx hb d_Mo_off_182 hl (by decide) rfl (fun ls hl => ?_)
          have hl : lv_has ls 8 [(4, .int x73), (0, .ref (aw_m ad 0)), (1, .long b), (3, .int x54), (5, .int x56), (6, .int (nI t))] := hl
          refine lv_iload hx hb d_Mo_off_184 (lv_at hl 4 rfl) ?_
          refine lv_ldc (v := (-1640531527)) hx hb hown (hG _ gw_11_11) d_Mo_off_186 ?_
          refine lv_isub hx hb d_Mo_off_188 ?_
          refine lv_topi (fun x74 _ => ?_)
          refine lv_istore hx hb d_Mo_off_189 hl (by decide) rfl (fun ls hl => ?_)
          have hl : lv_has ls 8 [(5, .int x74), (4, .int x73), (0, .ref (aw_m ad 0)), (1, .long b), (3, .int x54), (6, .int (nI t))] := hl
          refine lv_iload_n hx hb d_Mo_off_191 rfl (lv_at hl 4 rfl) ?_
          refine lv_iload hx hb d_Mo_off_192 (lv_at hl 1 rfl) ?_
          refine lv_iconst (v := nI 4) hx hb d_Mo_off_194 (by decide +kernel) ?_
          refine lv_ishl hx hb d_Mo_off_195 ?_
          refine lv_topi (fun x75 _ => ?_)
          refine lv_iload hx hb d_Mo_off_196 (lv_at hl 1 rfl) ?_
          refine lv_iconst (v := nI 5) hx hb d_Mo_off_198 (by decide +kernel) ?_
          refine lv_iushr hx hb d_Mo_off_199 rfl ?_
          refine lv_topi (fun x76 _ => ?_)
          refine lv_ixor hx hb d_Mo_off_200 ?_
          refine lv_topi (fun x77 _ => ?_)
          refine lv_iload hx hb d_Mo_off_201 (lv_at hl 1 rfl) ?_
          refine lv_iadd hx hb d_Mo_off_203 ?_
          refine lv_topi (fun x78 _ => ?_)
          refine lv_iload hx hb d_Mo_off_204 (lv_at hl 0 rfl) ?_
          refine lv_aload_n hx hb d_Mo_off_206 rfl (lv_at hl 2 rfl) ?_
          obtain ⟨x80, o81, hw82, he79⟩ := rd_M0 hSh
          refine va_get (C := R_Mo) (T := T_Mo) (N := 19) (v := .ref (aw_m ad 15)) hx hb hG in_Mo hown hK hP 67 he79 rfl 17 (by decide) (hG _ gw_9_42) (fun _ h => h) rfl d_Mo_off_207 ?_
          refine lv_iload hx hb d_Mo_off_210 (lv_at hl 0 rfl) ?_
          refine lv_iconst (v := nI 3) hx hb d_Mo_off_212 (by decide +kernel) ?_
          refine lv_iand hx hb d_Mo_off_213 ?_
          obtain ⟨k83, hk83, ek83⟩ := pk_andE x74 (m := nI 3) 2 (by decide +kernel)
          refine aw_ti ek83 ?_
          obtain ⟨f85, he84⟩ := rd_M15 hSh
          refine aw_ild hx hb hK hP 82 0 he84 rfl (k := k83) (by omega) (by decide) d_Mo_off_214 ?_
          refine lv_topi (fun x86 _ => ?_)
          refine lv_iadd hx hb d_Mo_off_215 ?_
          refine lv_topi (fun x87 _ => ?_)
          refine lv_ixor hx hb d_Mo_off_216 ?_
          refine lv_topi (fun x88 _ => ?_)
          refine lv_isub hx hb d_Mo_off_217 ?_
          refine lv_topi (fun x89 _ => ?_)
          refine lv_istore_n hx hb d_Mo_off_218 rfl hl (by decide) rfl (fun ls hl => ?_)
          have hl : lv_has ls 8 [(3, .int x89), (5, .int x74), (4, .int x73), (0, .ref (aw_m ad 0)), (1, .long b), (6, .int (nI t))] := hl
          refine lv_iinc (k := 5) (v := nI (t + 1)) hx hb d_Mo_off_219 hl rfl (aw_inc t 1 1 (by decide +kernel)) (by decide) rfl (fun ls hl => ?_)
          have hl : lv_has ls 8 [(6, .int (nI (t + 1))), (3, .int x89), (5, .int x74), (4, .int x73), (0, .ref (aw_m ad 0)), (1, .long b)] := hl
          refine lv_goto (tgt := 147) hx hb d_Mo_off_222 (by decide) ?_
          have hl := lv_sub hl (l' := [(0, .ref (aw_m ad 0)), (1, .long b), (3, .int x89), (4, .int x73), (5, .int x74), (6, .int (nI (t + 1)))]) [4, 5, 1, 3, 2, 0] rfl
          exact ih (t + 1) x89 x73 x74 H locs L ls (by omega) hP hD hSh hS (by first | exact hl | simpa [Nat.add_assoc, Nat.mul_add, Nat.add_comm] using hl)
      have hl := lv_sub hl (l' := [(0, .ref (aw_m ad 0)), (1, .long b), (3, .int x1), (4, .int x2), (5, .int ((-957401312))), (6, .int (nI 0))]) [4, 5, 3, 2, 1, 0] rfl
      exact L147 32 0 x1 x2 ((-957401312)) _ _ _ ls (by omega) hP hD hSh hS (by first | exact hl | simpa using hl)
    · refine aw_ti (y := nI 2) (by rw [ek10, hs7]) ?_
      refine lv_tableIn (tgt := 232) (off := 215) hx hb d_Mo_off_17 (by decide +kernel) (by decide +kernel) (by decide +kernel) (by decide) ?_
      refine lv_bipush (v := nI 26) hx hb d_Mo_off_232 (by decide +kernel) ?_
      refine lv_istore hx hb d_Mo_off_234 hl (by decide) rfl (fun ls hl => ?_)
      have hl : lv_has ls 8 [(6, .int (nI 26)), (5, .int ((-957401312))), (4, .int x2), (3, .int x1), (0, .ref (aw_m ad 0)), (1, .long b)] := hl
      have L236 : ∀ (d t : Nat) (x90 : Int32) (x91 : Int32) (H : Heap) (locs : List Loc) (L : va_W) (ls : Array Slot), t + d = 27 → va_P D aw_C L H → va_D (aw_Z N0) L → aw_Sh g ad G M F L → va_S (aw_Z N0) s.heap H locs → lv_has ls 8 [(0, .ref (aw_m ad 0)), (1, .long b), (3, .int x90), (4, .int x91), (5, .int ((-957401312))), (6, .int (aw_dn d))] → W p l e (headSpec ws_Mo_off rm_Mo_off).room s m ([.ref (aw_m ad 0), .long b] : List Value).toArray below meth c H locs 0 0 (MQ below (va_Ql (fun r (_ : Unit) => True) (fun (_ : Unit) t => aw_H D g ad G M F N0 t.heap) (aw_Z N0)) ([.ref (aw_m ad 0), .long b] : List Value).toArray s 0 0 (aw_Z N0)) (F0 m 236 ls []) := by
        clear hP hD hSh hS
        clear hl
        intro d
        induction d with
        | zero => 
          intro t x90 x91 H locs L ls ht0 hP hD hSh hS hl
          have hl : lv_has ls 8 [(0, .ref (aw_m ad 0)), (1, .long b), (3, .int x90), (4, .int x91), (5, .int ((-957401312))), (6, .int (aw_dn 0))] := hl
          refine lv_iload hx hb d_Mo_off_236 (lv_at hl 5 rfl) ?_
          refine lv_if_lt (tgt := 275) hx hb d_Mo_off_238 (by decide) (fun _ => ?_) (fun h => absurd (by decide +kernel) h)
          refine lv_iload_n hx hb d_Mo_off_275 rfl (lv_at hl 2 rfl) ?_
          refine lv_iload hx hb d_Mo_off_276 (lv_at hl 3 rfl) ?_
          refine aw_cl ((va_runS (As := [.int x90, .int x91]) (rest := []) ⟨hx, hb, hml, hown, hG⟩ (k_Mo_joined l x90 x91) (aw_wS 2 hG gw_11_43 gw_11_41 gw_0_10 gw_11_42 rfl rfl hd_Mo_joined ⟨Nat.le_of_ble_eq_true rfl, Nat.le_of_ble_eq_true rfl⟩) aw_p0 rfl rfl hl.1 rfl (lv_room (Nat.le_of_ble_eq_true rfl)) d_Mo_off_278 ⟨Nat.le_of_ble_eq_true rfl, Nat.le_of_ble_eq_true rfl⟩).run) (fun y92 hy92 => ?_)
          exact W.lret hx hb hr (fun t ht hW => ⟨⟨_, (), rfl, trivial, aw_Hr ht hP hD hSh⟩, hS.F ht⟩) hS.2.2 d_Mo_off_281
        | succ d ih => 
          intro t x90 x91 H locs L ls ht0 hP hD hSh hS hl
          have hl : lv_has ls 8 [(0, .ref (aw_m ad 0)), (1, .long b), (3, .int x90), (4, .int x91), (5, .int ((-957401312))), (6, .int (nI d))] := hl
          refine lv_iload hx hb d_Mo_off_236 (lv_at hl 5 rfl) ?_
          refine lv_if_lt (tgt := 275) hx hb d_Mo_off_238 (by decide) (fun h => absurd h (show ¬ nI d < nI 0 from fun h9 => absurd ((nI_ltI (by omega) (by omega)).mp h9) (by omega))) (fun _ => ?_)
          refine lv_iload hx hb d_Mo_off_241 (lv_at hl 3 rfl) ?_
          refine lv_iload_n hx hb d_Mo_off_243 rfl (lv_at hl 2 rfl) ?_
          refine lv_ixor hx hb d_Mo_off_244 ?_
          refine lv_topi (fun x93 _ => ?_)
          refine lv_iconst (v := nI 3) hx hb d_Mo_off_245 (by decide +kernel) ?_
          refine aw_ci ((va_runS (As := [.int x93, .int (nI 3)]) (rest := []) ⟨hx, hb, hml, hown, hG⟩ (k_Mo_back l x93 (nI 3)) (aw_wS 2 hG gw_11_27 gw_11_25 gw_0_10 gw_11_26 rfl rfl hd_Mo_back ⟨Nat.le_of_ble_eq_true rfl, Nat.le_of_ble_eq_true rfl⟩) aw_p0 rfl rfl hl.1 rfl (lv_room (Nat.le_of_ble_eq_true rfl)) d_Mo_off_246 ⟨Nat.le_of_ble_eq_true rfl, Nat.le_of_ble_eq_true rfl⟩).run) (fun x94 hx94 => ?_)
          refine lv_istore hx hb d_Mo_off_249 hl (by decide) rfl (fun ls hl => ?_)
          have hl : lv_has ls 8 [(4, .int x94), (0, .ref (aw_m ad 0)), (1, .long b), (3, .int x90), (5, .int ((-957401312))), (6, .int (nI d))] := hl
          refine lv_iload_n hx hb d_Mo_off_251 rfl (lv_at hl 3 rfl) ?_
          refine lv_aload_n hx hb d_Mo_off_252 rfl (lv_at hl 1 rfl) ?_
          obtain ⟨x96, o97, hw98, he95⟩ := rd_M0 hSh
          refine va_get (C := R_Mo) (T := T_Mo) (N := 19) (v := .ref (aw_m ad 15)) hx hb hG in_Mo hown hK hP 67 he95 rfl 17 (by decide) (hG _ gw_9_42) (fun _ h => h) rfl d_Mo_off_253 ?_
          refine lv_iload hx hb d_Mo_off_256 (lv_at hl 5 rfl) ?_
          obtain ⟨f100, he99⟩ := rd_M15 hSh
          refine aw_ild hx hb hK hP 82 0 he99 rfl (k := d) (by omega) (by decide) d_Mo_off_258 ?_
          refine lv_topi (fun x101 _ => ?_)
          refine lv_ixor hx hb d_Mo_off_259 ?_
          refine lv_topi (fun x102 _ => ?_)
          refine lv_iload hx hb d_Mo_off_260 (lv_at hl 0 rfl) ?_
          refine lv_isub hx hb d_Mo_off_262 ?_
          refine lv_topi (fun x103 _ => ?_)
          refine lv_bipush (v := nI 8) hx hb d_Mo_off_263 (by decide +kernel) ?_
          refine aw_ci ((va_runS (As := [.int x103, .int (nI 8)]) (rest := []) ⟨hx, hb, hml, hown, hG⟩ (k_Mo_turn l x103 (nI 8)) (aw_wS 2 hG gw_11_24 gw_11_22 gw_0_10 gw_11_23 rfl rfl hd_Mo_turn ⟨Nat.le_of_ble_eq_true rfl, Nat.le_of_ble_eq_true rfl⟩) aw_p0 rfl rfl hl.1 rfl (lv_room (Nat.le_of_ble_eq_true rfl)) d_Mo_off_265 ⟨Nat.le_of_ble_eq_true rfl, Nat.le_of_ble_eq_true rfl⟩).run) (fun x104 hx104 => ?_)
          refine lv_istore_n hx hb d_Mo_off_268 rfl hl (by decide) rfl (fun ls hl => ?_)
          have hl : lv_has ls 8 [(3, .int x104), (4, .int x94), (0, .ref (aw_m ad 0)), (1, .long b), (5, .int ((-957401312))), (6, .int (nI d))] := hl
          refine lv_iinc (k := 5) (v := aw_dn d) hx hb d_Mo_off_269 hl rfl (aw_dn_i d) (by decide) rfl (fun ls hl => ?_)
          have hl : lv_has ls 8 [(6, .int (aw_dn d)), (3, .int x104), (4, .int x94), (0, .ref (aw_m ad 0)), (1, .long b), (5, .int ((-957401312)))] := hl
          refine lv_goto (tgt := 236) hx hb d_Mo_off_272 (by decide) ?_
          have hl := lv_sub hl (l' := [(0, .ref (aw_m ad 0)), (1, .long b), (3, .int x104), (4, .int x94), (5, .int ((-957401312))), (6, .int (aw_dn d))]) [3, 4, 1, 2, 5, 0] rfl
          exact ih (t + 1) x104 x94 H locs L ls (by omega) hP hD hSh hS (by first | exact hl | simpa [Nat.add_assoc, Nat.mul_add, Nat.add_comm] using hl)
      have hl := lv_sub hl (l' := [(0, .ref (aw_m ad 0)), (1, .long b), (3, .int x1), (4, .int x2), (5, .int ((-957401312))), (6, .int (nI 26))]) [4, 5, 3, 2, 1, 0] rfl
      exact L236 27 0 x1 x2 _ _ _ ls (by omega) hP hD hSh hS (by first | exact hl | simpa using hl)
    · refine aw_ti (y := nI 3) (by rw [ek10, hs7]) ?_
      refine lv_tableIn (tgt := 282) (off := 265) hx hb d_Mo_off_17 (by decide +kernel) (by decide +kernel) (by decide +kernel) (by decide) ?_
      refine lv_bipush (v := nI 43) hx hb d_Mo_off_282 (by decide +kernel) ?_
      refine lv_istore hx hb d_Mo_off_284 hl (by decide) rfl (fun ls hl => ?_)
      have hl : lv_has ls 8 [(6, .int (nI 43)), (5, .int ((-957401312))), (4, .int x2), (3, .int x1), (0, .ref (aw_m ad 0)), (1, .long b)] := hl
      have L286 : ∀ (d t : Nat) (x105 : Int32) (x106 : Int32) (H : Heap) (locs : List Loc) (L : va_W) (ls : Array Slot), t + d = 44 → va_P D aw_C L H → va_D (aw_Z N0) L → aw_Sh g ad G M F L → va_S (aw_Z N0) s.heap H locs → lv_has ls 8 [(0, .ref (aw_m ad 0)), (1, .long b), (3, .int x105), (4, .int x106), (5, .int ((-957401312))), (6, .int (aw_dn d))] → W p l e (headSpec ws_Mo_off rm_Mo_off).room s m ([.ref (aw_m ad 0), .long b] : List Value).toArray below meth c H locs 0 0 (MQ below (va_Ql (fun r (_ : Unit) => True) (fun (_ : Unit) t => aw_H D g ad G M F N0 t.heap) (aw_Z N0)) ([.ref (aw_m ad 0), .long b] : List Value).toArray s 0 0 (aw_Z N0)) (F0 m 286 ls []) := by
        clear hP hD hSh hS
        clear hl
        intro d
        induction d with
        | zero => 
          intro t x105 x106 H locs L ls ht0 hP hD hSh hS hl
          have hl : lv_has ls 8 [(0, .ref (aw_m ad 0)), (1, .long b), (3, .int x105), (4, .int x106), (5, .int ((-957401312))), (6, .int (aw_dn 0))] := hl
          refine lv_iload hx hb d_Mo_off_286 (lv_at hl 5 rfl) ?_
          refine lv_if_lt (tgt := 337) hx hb d_Mo_off_288 (by decide) (fun _ => ?_) (fun h => absurd (by decide +kernel) h)
          refine lv_iload_n hx hb d_Mo_off_337 rfl (lv_at hl 2 rfl) ?_
          refine lv_iload hx hb d_Mo_off_338 (lv_at hl 3 rfl) ?_
          refine aw_cl ((va_runS (As := [.int x105, .int x106]) (rest := []) ⟨hx, hb, hml, hown, hG⟩ (k_Mo_joined l x105 x106) (aw_wS 2 hG gw_11_43 gw_11_41 gw_0_10 gw_11_42 rfl rfl hd_Mo_joined ⟨Nat.le_of_ble_eq_true rfl, Nat.le_of_ble_eq_true rfl⟩) aw_p0 rfl rfl hl.1 rfl (lv_room (Nat.le_of_ble_eq_true rfl)) d_Mo_off_340 ⟨Nat.le_of_ble_eq_true rfl, Nat.le_of_ble_eq_true rfl⟩).run) (fun y107 hy107 => ?_)
          exact W.lret hx hb hr (fun t ht hW => ⟨⟨_, (), rfl, trivial, aw_Hr ht hP hD hSh⟩, hS.F ht⟩) hS.2.2 d_Mo_off_343
        | succ d ih => 
          intro t x105 x106 H locs L ls ht0 hP hD hSh hS hl
          have hl : lv_has ls 8 [(0, .ref (aw_m ad 0)), (1, .long b), (3, .int x105), (4, .int x106), (5, .int ((-957401312))), (6, .int (nI d))] := hl
          refine lv_iload hx hb d_Mo_off_286 (lv_at hl 5 rfl) ?_
          refine lv_if_lt (tgt := 337) hx hb d_Mo_off_288 (by decide) (fun h => absurd h (show ¬ nI d < nI 0 from fun h9 => absurd ((nI_ltI (by omega) (by omega)).mp h9) (by omega))) (fun _ => ?_)
          refine lv_iload hx hb d_Mo_off_291 (lv_at hl 3 rfl) ?_
          refine lv_istore hx hb d_Mo_off_293 hl (by decide) rfl (fun ls hl => ?_)
          have hl : lv_has ls 8 [(7, .int x106), (0, .ref (aw_m ad 0)), (1, .long b), (3, .int x105), (4, .int x106), (5, .int ((-957401312))), (6, .int (nI d))] := hl
          refine lv_iload_n hx hb d_Mo_off_295 rfl (lv_at hl 3 rfl) ?_
          refine lv_iload hx hb d_Mo_off_296 (lv_at hl 4 rfl) ?_
          refine lv_iconst (v := nI 1) hx hb d_Mo_off_298 (by decide +kernel) ?_
          refine aw_ci ((va_runS (As := [.int x106, .int (nI 1)]) (rest := [.int x105]) ⟨hx, hb, hml, hown, hG⟩ (k_Mo_turn l x106 (nI 1)) (aw_wS 2 hG gw_11_24 gw_11_22 gw_0_10 gw_11_23 rfl rfl hd_Mo_turn ⟨Nat.le_of_ble_eq_true rfl, Nat.le_of_ble_eq_true rfl⟩) aw_p0 rfl rfl hl.1 rfl (lv_room (Nat.le_of_ble_eq_true rfl)) d_Mo_off_299 ⟨Nat.le_of_ble_eq_true rfl, Nat.le_of_ble_eq_true rfl⟩).run) (fun x108 hx108 => ?_)
          refine lv_iload hx hb d_Mo_off_302 (lv_at hl 4 rfl) ?_
          refine lv_bipush (v := nI 8) hx hb d_Mo_off_304 (by decide +kernel) ?_
          refine aw_ci ((va_runS (As := [.int x106, .int (nI 8)]) (rest := [.int x108, .int x105]) ⟨hx, hb, hml, hown, hG⟩ (k_Mo_turn l x106 (nI 8)) (aw_wS 2 hG gw_11_24 gw_11_22 gw_0_10 gw_11_23 rfl rfl hd_Mo_turn ⟨Nat.le_of_ble_eq_true rfl, Nat.le_of_ble_eq_true rfl⟩) aw_p0 rfl rfl hl.1 rfl (lv_room (Nat.le_of_ble_eq_true rfl)) d_Mo_off_306 ⟨Nat.le_of_ble_eq_true rfl, Nat.le_of_ble_eq_true rfl⟩).run) (fun x109 hx109 => ?_)
          refine lv_iand hx hb d_Mo_off_309 ?_
          refine lv_topi (fun x110 _ => ?_)
          refine lv_ixor hx hb d_Mo_off_310 ?_
          refine lv_topi (fun x111 _ => ?_)
          refine lv_iload hx hb d_Mo_off_311 (lv_at hl 4 rfl) ?_
          refine lv_iconst (v := nI 2) hx hb d_Mo_off_313 (by decide +kernel) ?_
          refine aw_ci ((va_runS (As := [.int x106, .int (nI 2)]) (rest := [.int x111]) ⟨hx, hb, hml, hown, hG⟩ (k_Mo_turn l x106 (nI 2)) (aw_wS 2 hG gw_11_24 gw_11_22 gw_0_10 gw_11_23 rfl rfl hd_Mo_turn ⟨Nat.le_of_ble_eq_true rfl, Nat.le_of_ble_eq_true rfl⟩) aw_p0 rfl rfl hl.1 rfl (lv_room (Nat.le_of_ble_eq_true rfl)) d_Mo_off_314 ⟨Nat.le_of_ble_eq_true rfl, Nat.le_of_ble_eq_true rfl⟩).run) (fun x112 hx112 => ?_)
          refine lv_ixor hx hb d_Mo_off_317 ?_
          refine lv_topi (fun x113 _ => ?_)
          refine lv_aload_n hx hb d_Mo_off_318 rfl (lv_at hl 1 rfl) ?_
          obtain ⟨x115, o116, hw117, he114⟩ := rd_M0 hSh
          refine va_get (C := R_Mo) (T := T_Mo) (N := 19) (v := .ref (aw_m ad 15)) hx hb hG in_Mo hown hK hP 67 he114 rfl 17 (by decide) (hG _ gw_9_42) (fun _ h => h) rfl d_Mo_off_319 ?_
          refine lv_iload hx hb d_Mo_off_322 (lv_at hl 6 rfl) ?_
          obtain ⟨f119, he118⟩ := rd_M15 hSh
          refine aw_ild hx hb hK hP 82 0 he118 rfl (k := d) (by omega) (by decide) d_Mo_off_324 ?_
          refine lv_topi (fun x120 _ => ?_)
          refine lv_ixor hx hb d_Mo_off_325 ?_
          refine lv_topi (fun x121 _ => ?_)
          refine lv_istore hx hb d_Mo_off_326 hl (by decide) rfl (fun ls hl => ?_)
          have hl : lv_has ls 8 [(4, .int x121), (7, .int x106), (0, .ref (aw_m ad 0)), (1, .long b), (3, .int x105), (5, .int ((-957401312))), (6, .int (nI d))] := hl
          refine lv_iload hx hb d_Mo_off_328 (lv_at hl 1 rfl) ?_
          refine lv_istore_n hx hb d_Mo_off_330 rfl hl (by decide) rfl (fun ls hl => ?_)
          have hl : lv_has ls 8 [(3, .int x106), (4, .int x121), (7, .int x106), (0, .ref (aw_m ad 0)), (1, .long b), (5, .int ((-957401312))), (6, .int (nI d))] := hl
          refine lv_iinc (k := 6) (v := aw_dn d) hx hb d_Mo_off_331 hl rfl (aw_dn_i d) (by decide) rfl (fun ls hl => ?_)
          have hl : lv_has ls 8 [(6, .int (aw_dn d)), (3, .int x106), (4, .int x121), (7, .int x106), (0, .ref (aw_m ad 0)), (1, .long b), (5, .int ((-957401312)))] := hl
          refine lv_goto (tgt := 286) hx hb d_Mo_off_334 (by decide) ?_
          have hl := lv_sub hl (l' := [(0, .ref (aw_m ad 0)), (1, .long b), (3, .int x106), (4, .int x121), (5, .int ((-957401312))), (6, .int (aw_dn d))]) [4, 5, 1, 2, 6, 0] rfl
          exact ih (t + 1) x106 x121 H locs L ls (by omega) hP hD hSh hS (by first | exact hl | simpa [Nat.add_assoc, Nat.mul_add, Nat.add_comm] using hl)
      have hl := lv_sub hl (l' := [(0, .ref (aw_m ad 0)), (1, .long b), (3, .int x1), (4, .int x2), (5, .int ((-957401312))), (6, .int (nI 43))]) [4, 5, 3, 2, 1, 0] rfl
      exact L286 44 0 x1 x2 _ _ _ ls (by omega) hP hD hSh hS (by first | exact hl | simpa using hl)
