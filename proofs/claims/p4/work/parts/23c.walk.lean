noncomputable def v_Rc_mixKeyIntoWordsV_L6 (zA : Nat → Nat → Nat → Int32) (j : Nat) (t : Nat) : Int32 × Int32 × (Nat → Nat → Nat → Int32) := Nat.rec (motive := fun _ => Int32 × Int32 × (Nat → Nat → Nat → Int32)) (nI 0, nI 0, zA) (fun t s => (v_Ru_turnLeftV ((((s.2.2) j 3 (t % 26)) + (s.1)) + (s.2.1)) (nI 3), v_Ru_turnLeftV ((((az_w (s.2.2) j 3 (t % 26) (v_Ru_turnLeftV ((((s.2.2) j 3 (t % 26)) + (s.1)) + (s.2.1)) (nI 3))) j 4 (t % 4)) + (v_Ru_turnLeftV ((((s.2.2) j 3 (t % 26)) + (s.1)) + (s.2.1)) (nI 3))) + (s.2.1)) ((v_Ru_turnLeftV ((((s.2.2) j 3 (t % 26)) + (s.1)) + (s.2.1)) (nI 3)) + (s.2.1)), az_w (az_w (s.2.2) j 3 (t % 26) (v_Ru_turnLeftV ((((s.2.2) j 3 (t % 26)) + (s.1)) + (s.2.1)) (nI 3))) j 4 (t % 4) (v_Ru_turnLeftV ((((az_w (s.2.2) j 3 (t % 26) (v_Ru_turnLeftV ((((s.2.2) j 3 (t % 26)) + (s.1)) + (s.2.1)) (nI 3))) j 4 (t % 4)) + (v_Ru_turnLeftV ((((s.2.2) j 3 (t % 26)) + (s.1)) + (s.2.1)) (nI 3))) + (s.2.1)) ((v_Ru_turnLeftV ((((s.2.2) j 3 (t % 26)) + (s.1)) + (s.2.1)) (nI 3)) + (s.2.1))))) t
theorem v_Rc_mixKeyIntoWordsV_L6_z (zA : Nat → Nat → Nat → Int32) (j : Nat) : v_Rc_mixKeyIntoWordsV_L6 zA j 0 = (nI 0, nI 0, zA) := rfl
theorem v_Rc_mixKeyIntoWordsV_L6_s (zA : Nat → Nat → Nat → Int32) (j : Nat) (t : Nat) : v_Rc_mixKeyIntoWordsV_L6 zA j (t + 1) = (v_Ru_turnLeftV (((((v_Rc_mixKeyIntoWordsV_L6 zA j t).2.2) j 3 (t % 26)) + ((v_Rc_mixKeyIntoWordsV_L6 zA j t).1)) + ((v_Rc_mixKeyIntoWordsV_L6 zA j t).2.1)) (nI 3), v_Ru_turnLeftV ((((az_w ((v_Rc_mixKeyIntoWordsV_L6 zA j t).2.2) j 3 (t % 26) (v_Ru_turnLeftV (((((v_Rc_mixKeyIntoWordsV_L6 zA j t).2.2) j 3 (t % 26)) + ((v_Rc_mixKeyIntoWordsV_L6 zA j t).1)) + ((v_Rc_mixKeyIntoWordsV_L6 zA j t).2.1)) (nI 3))) j 4 (t % 4)) + (v_Ru_turnLeftV (((((v_Rc_mixKeyIntoWordsV_L6 zA j t).2.2) j 3 (t % 26)) + ((v_Rc_mixKeyIntoWordsV_L6 zA j t).1)) + ((v_Rc_mixKeyIntoWordsV_L6 zA j t).2.1)) (nI 3))) + ((v_Rc_mixKeyIntoWordsV_L6 zA j t).2.1)) ((v_Ru_turnLeftV (((((v_Rc_mixKeyIntoWordsV_L6 zA j t).2.2) j 3 (t % 26)) + ((v_Rc_mixKeyIntoWordsV_L6 zA j t).1)) + ((v_Rc_mixKeyIntoWordsV_L6 zA j t).2.1)) (nI 3)) + ((v_Rc_mixKeyIntoWordsV_L6 zA j t).2.1)), az_w (az_w ((v_Rc_mixKeyIntoWordsV_L6 zA j t).2.2) j 3 (t % 26) (v_Ru_turnLeftV (((((v_Rc_mixKeyIntoWordsV_L6 zA j t).2.2) j 3 (t % 26)) + ((v_Rc_mixKeyIntoWordsV_L6 zA j t).1)) + ((v_Rc_mixKeyIntoWordsV_L6 zA j t).2.1)) (nI 3))) j 4 (t % 4) (v_Ru_turnLeftV ((((az_w ((v_Rc_mixKeyIntoWordsV_L6 zA j t).2.2) j 3 (t % 26) (v_Ru_turnLeftV (((((v_Rc_mixKeyIntoWordsV_L6 zA j t).2.2) j 3 (t % 26)) + ((v_Rc_mixKeyIntoWordsV_L6 zA j t).1)) + ((v_Rc_mixKeyIntoWordsV_L6 zA j t).2.1)) (nI 3))) j 4 (t % 4)) + (v_Ru_turnLeftV (((((v_Rc_mixKeyIntoWordsV_L6 zA j t).2.2) j 3 (t % 26)) + ((v_Rc_mixKeyIntoWordsV_L6 zA j t).1)) + ((v_Rc_mixKeyIntoWordsV_L6 zA j t).2.1)) (nI 3))) + ((v_Rc_mixKeyIntoWordsV_L6 zA j t).2.1)) ((v_Ru_turnLeftV (((((v_Rc_mixKeyIntoWordsV_L6 zA j t).2.2) j 3 (t % 26)) + ((v_Rc_mixKeyIntoWordsV_L6 zA j t).1)) + ((v_Rc_mixKeyIntoWordsV_L6 zA j t).2.1)) (nI 3)) + ((v_Rc_mixKeyIntoWordsV_L6 zA j t).2.1)))) := rfl
noncomputable def v_Rc_mixKeyIntoWordsV_zA (zA : Nat → Nat → Nat → Int32) (j : Nat) : Nat → Nat → Nat → Int32 := (v_Rc_mixKeyIntoWordsV_L6 zA j 78).2.2
abbrev ws_Rc_mixKeyIntoWordsV : List Cond := Cond.code y_Rc_mixKeyIntoWords b_Rc_mixKeyIntoWords 6 none :: aw_G
abbrev rm_Rc_mixKeyIntoWordsV : Room := { frames := 1, cells := 0, slots := 0, locals := 21 }
set_option maxHeartbeats 4000000 in
set_option maxRecDepth 100000 in
theorem k_Rc_mixKeyIntoWordsV (l : Launch) (D : va_G) (g : Nat → ClassId) (ad : Nat → Nat) (N0 : Nat) (zG : Nat → Nat × Nat) (zO : Nat → Nat) (zX : Nat → Nat → Int64) (zY : Nat → Nat → Int32) (zA : Nat → Nat → Nat → Int32) (zB : Nat → Int32) (zM : Nat → Nat × Nat) (zI : Nat → Nat → Int32) (zL : Nat → Nat → Int64) (zK : Int32) (zN : Nat) (zF : Int32) (zQ : Int64) (j : Nat) (hj : j < 4) : Met l y_Rc_mixKeyIntoWords ws_Rc_mixKeyIntoWordsV rm_Rc_mixKeyIntoWordsV (va_Pc ([.ref (aw_c ad j 2)] : List Value) (ag_B D g N0 (az_Sh g ad zG zO zX zY zA zB zM zI zL zK zN zF zQ))) (va_Qv (fun (_ : Unit) => True) (fun (_ : Unit) t => ag_H D N0 (az_Sh g ad zG zO zX zY (v_Rc_mixKeyIntoWordsV_zA zA j) zB zM zI zL zK zN zF zQ) t.heap) (aw_Z N0)) 0 0 (aw_Z N0) := by
  refine Met.ofW (cc := b_Rc_mixKeyIntoWords) (maxL := 6) (ret := none) (by decide) rfl ?_
  intro p e s m args below meth c s₁ B hml hv
  obtain ⟨rfl, ⟨L, hP, hD, hSh⟩, hU⟩ := hv
  have hx := B.exec
  have hb := B.bytes
  have hr := B.returns
  have hG : ∀ w ∈ aw_G, w.before _ s = true := fun w h => atoms_spec (ws := ws_Rc_mixKeyIntoWordsV) B.pre w (List.mem_cons_of_mem _ h)
  have hown : s.vm.findClass "RuleCiphers$Rc5" = some m.cls := findClass_of_methodNamed B.named
  have hlocks := B.notSynchronized
  have hE := hU.1
  have hK := hE.1
  have hN := hE.2.1
  have hS : va_S (aw_Z N0) s.heap s.heap [] := va_S.rf
  have hl := lv_entry ([.ref (aw_c ad j 2)] : List Value) (n := 6) (Nat.le_of_ble_eq_true rfl)
  rw [lg_entry_eq]
  generalize (lg_sl ([.ref (aw_c ad j 2)] : List Value) ++ List.replicate (6 - (lg_sl ([.ref (aw_c ad j 2)] : List Value)).length) Slot.unset).toArray = ls at hl ⊢
  have hl : lv_has ls 6 [(0, .ref (aw_c ad j 2))] := hl
  refine lv_iconst (v := nI 0) hx hb d_Rc_mixKeyIntoWords_0 (by decide +kernel) ?_
  refine lv_istore_n hx hb d_Rc_mixKeyIntoWords_1 rfl hl (by decide) rfl (fun ls hl => ?_)
  have hl : lv_has ls 6 [(1, .int (nI 0)), (0, .ref (aw_c ad j 2))] := hl
  refine lv_iconst (v := nI 0) hx hb d_Rc_mixKeyIntoWords_2 (by decide +kernel) ?_
  refine lv_istore_n hx hb d_Rc_mixKeyIntoWords_3 rfl hl (by decide) rfl (fun ls hl => ?_)
  have hl : lv_has ls 6 [(2, .int (nI 0)), (1, .int (nI 0)), (0, .ref (aw_c ad j 2))] := hl
  refine lv_iconst (v := nI 0) hx hb d_Rc_mixKeyIntoWords_4 (by decide +kernel) ?_
  refine lv_istore_n hx hb d_Rc_mixKeyIntoWords_5 rfl hl (by decide) rfl (fun ls hl => ?_)
  have hl : lv_has ls 6 [(3, .int (nI 0)), (2, .int (nI 0)), (1, .int (nI 0)), (0, .ref (aw_c ad j 2))] := hl
  have L6 : ∀ (d t : Nat) (H : Heap) (locs : List Loc) (L : va_W) (ls : Array Slot), t + d = 78 → va_P D aw_C L H → va_D (aw_Z N0) L → az_Sh g ad zG zO zX zY ((v_Rc_mixKeyIntoWordsV_L6 zA j t).2.2) zB zM zI zL zK zN zF zQ L → va_S (aw_Z N0) s.heap H locs → lv_has ls 6 [(0, .ref (aw_c ad j 2)), (1, .int ((v_Rc_mixKeyIntoWordsV_L6 zA j t).1)), (2, .int ((v_Rc_mixKeyIntoWordsV_L6 zA j t).2.1)), (3, .int (nI t))] → W p l e (headSpec ws_Rc_mixKeyIntoWordsV rm_Rc_mixKeyIntoWordsV).room s m ([.ref (aw_c ad j 2)] : List Value).toArray below meth c H locs 0 0 (MQ below (va_Qv (fun (_ : Unit) => True) (fun (_ : Unit) t => ag_H D N0 (az_Sh g ad zG zO zX zY (v_Rc_mixKeyIntoWordsV_zA zA j) zB zM zI zL zK zN zF zQ) t.heap) (aw_Z N0)) ([.ref (aw_c ad j 2)] : List Value).toArray s 0 0 (aw_Z N0)) (F0 m 6 ls []) := by
    clear hl hP hD hSh hS
    intro d
    induction d with
    | zero =>
      intro t H locs L ls ht0 hP hD hSh hS hl
      have ht1 : t = 78 := by omega
      subst ht1
      refine lv_iload_n hx hb d_Rc_mixKeyIntoWords_6 rfl (lv_at hl 3 rfl) ?_
      refine lv_bipush (v := nI 78) hx hb d_Rc_mixKeyIntoWords_7 (by decide +kernel) ?_
      refine lv_icmp_ge (tgt := 79) hx hb d_Rc_mixKeyIntoWords_9 (by decide) (fun _ => ?_) (fun h => absurd (show nI 78 ≤ nI 78 from (nI_leI (by omega) (by omega)).mpr (by omega)) h)
      have gzA : (v_Rc_mixKeyIntoWordsV_L6 zA j 78).2.2 = v_Rc_mixKeyIntoWordsV_zA zA j := by rfl
      have hSh : az_Sh g ad zG zO zX zY (v_Rc_mixKeyIntoWordsV_zA zA j) zB zM zI zL zK zN zF zQ L := by rw [← gzA]; exact hSh
      exact W.vret hx hb hr (fun t ht hW => ⟨⟨(), rfl, trivial, ag_Hr ht hP hD hSh⟩, hS.F ht⟩) hS.2.2 d_Rc_mixKeyIntoWords_79
    | succ d ih =>
      intro t H locs L ls ht0 hP hD hSh hS hl
      refine lv_iload_n hx hb d_Rc_mixKeyIntoWords_6 rfl (lv_at hl 3 rfl) ?_
      refine lv_bipush (v := nI 78) hx hb d_Rc_mixKeyIntoWords_7 (by decide +kernel) ?_
      refine lv_icmp_ge (tgt := 79) hx hb d_Rc_mixKeyIntoWords_9 (by decide) (fun h => absurd h (show ¬ nI 78 ≤ nI t from fun h9 => absurd ((nI_leI (by omega) (by omega)).mp h9) (by omega))) (fun _ => ?_)
      refine lv_iload_n hx hb d_Rc_mixKeyIntoWords_12 rfl (lv_at hl 3 rfl) ?_
      refine lv_bipush (v := nI 26) hx hb d_Rc_mixKeyIntoWords_13 (by decide +kernel) ?_
      refine lv_irem hx hb d_Rc_mixKeyIntoWords_15 (by decide +kernel) ?_
      refine aw_ti (pk_rem (a := t) (d := 26) (by omega) (by omega) (by omega)) ?_
      refine lv_istore hx hb d_Rc_mixKeyIntoWords_16 hl (by decide) rfl (fun ls hl => ?_)
      have hl : lv_has ls 6 [(4, .int (nI (t % 26))), (0, .ref (aw_c ad j 2)), (1, .int ((v_Rc_mixKeyIntoWordsV_L6 zA j t).1)), (2, .int ((v_Rc_mixKeyIntoWordsV_L6 zA j t).2.1)), (3, .int (nI t))] := hl
      refine lv_iload_n hx hb d_Rc_mixKeyIntoWords_18 rfl (lv_at hl 4 rfl) ?_
      refine lv_iconst (v := nI 4) hx hb d_Rc_mixKeyIntoWords_19 (by decide +kernel) ?_
      refine lv_irem hx hb d_Rc_mixKeyIntoWords_20 (by decide +kernel) ?_
      refine aw_ti (pk_rem (a := t) (d := 4) (by omega) (by omega) (by omega)) ?_
      refine lv_istore hx hb d_Rc_mixKeyIntoWords_21 hl (by decide) rfl (fun ls hl => ?_)
      have hl : lv_has ls 6 [(5, .int (nI (t % 4))), (4, .int (nI (t % 26))), (0, .ref (aw_c ad j 2)), (1, .int ((v_Rc_mixKeyIntoWordsV_L6 zA j t).1)), (2, .int ((v_Rc_mixKeyIntoWordsV_L6 zA j t).2.1)), (3, .int (nI t))] := hl
      refine lv_aload_n hx hb d_Rc_mixKeyIntoWords_23 rfl (lv_at hl 2 rfl) ?_
      have he1 := zr_C2 hSh hj
      refine va_get (C := R_Rc) (T := T_Rc) (N := 2) (v := .ref (aw_c ad j 3)) hx hb hG in_Rc hown hK hP (3 + 16 * j + 2) he1 rfl 0 (by decide) (hG _ gw_0_50) (fun x9 h9 => u_same (hG _ gw_0_51) x9 h9) rfl d_Rc_mixKeyIntoWords_24 ?_
      clear he1
      refine lv_iload hx hb d_Rc_mixKeyIntoWords_27 (lv_at hl 1 rfl) ?_
      have he2 := zr_C3 hSh hj
      refine aw_ild hx hb hK hP (3 + 16 * j + 3) 0 he2 rfl (k := (t % 26)) (by omega) (by decide) d_Rc_mixKeyIntoWords_29 ?_
      clear he2
      refine ag_topi (fun x3 ex3 => ?_)
      refine lv_iload_n hx hb d_Rc_mixKeyIntoWords_30 rfl (lv_at hl 3 rfl) ?_
      refine lv_iadd hx hb d_Rc_mixKeyIntoWords_31 ?_
      refine ag_topi (fun x4 ex4 => ?_)
      refine lv_iload_n hx hb d_Rc_mixKeyIntoWords_32 rfl (lv_at hl 4 rfl) ?_
      refine lv_iadd hx hb d_Rc_mixKeyIntoWords_33 ?_
      refine ag_topi (fun x5 ex5 => ?_)
      refine lv_iconst (v := nI 3) hx hb d_Rc_mixKeyIntoWords_34 (by decide +kernel) ?_
      refine aw_ci ((va_runSN (As := [.int x5, .int (nI 3)]) (rest := []) ⟨hx, hb, hml, hown, hG⟩ (k_Ru_turnLeftV l x5 (nI 3)) (aw_wSN 2 hG hN gw_5_5 nw_14 gw_0_1 gw_5_4 rfl rfl hd_Ru_turnLeft ⟨Nat.le_of_ble_eq_true rfl, Nat.le_of_ble_eq_true rfl⟩) aw_p0 rfl rfl hl.1 rfl (lv_room (Nat.le_of_ble_eq_true rfl)) d_Rc_mixKeyIntoWords_35 ⟨Nat.le_of_ble_eq_true rfl, Nat.le_of_ble_eq_true rfl⟩).run) (fun x6 ex6 => ?_)
      have ex6 := ex6.symm
      refine lv_istore_n hx hb d_Rc_mixKeyIntoWords_38 rfl hl (by decide) rfl (fun ls hl => ?_)
      have hl : lv_has ls 6 [(1, .int x6), (5, .int (nI (t % 4))), (4, .int (nI (t % 26))), (0, .ref (aw_c ad j 2)), (2, .int ((v_Rc_mixKeyIntoWordsV_L6 zA j t).2.1)), (3, .int (nI t))] := hl
      refine lv_aload_n hx hb d_Rc_mixKeyIntoWords_39 rfl (lv_at hl 3 rfl) ?_
      have he7 := zr_C2 hSh hj
      refine va_get (C := R_Rc) (T := T_Rc) (N := 2) (v := .ref (aw_c ad j 3)) hx hb hG in_Rc hown hK hP (3 + 16 * j + 2) he7 rfl 0 (by decide) (hG _ gw_0_50) (fun x9 h9 => u_same (hG _ gw_0_51) x9 h9) rfl d_Rc_mixKeyIntoWords_40 ?_
      clear he7
      refine lv_iload hx hb d_Rc_mixKeyIntoWords_43 (lv_at hl 2 rfl) ?_
      refine lv_iload_n hx hb d_Rc_mixKeyIntoWords_45 rfl (lv_at hl 0 rfl) ?_
      have he8 := zr_C3 hSh hj
      refine ag_ist hx hb hK hP hD hS (3 + 16 * j + 3) 0 he8 rfl (k := (t % 26)) (by omega) (by decide) d_Rc_mixKeyIntoWords_46 (zw_A3w hSh hj (t % 26) x6) ?_
      clear hP hD hSh hS he8
      intro H locs L hP hD hSh hS
      obtain ⟨zA9, ezA9⟩ : ∃ z : Nat → Nat → Nat → Int32, az_w ((v_Rc_mixKeyIntoWordsV_L6 zA j t).2.2) j 3 (t % 26) x6 = z := ⟨_, rfl⟩
      rw [ezA9] at hSh
      refine lv_aload_n hx hb d_Rc_mixKeyIntoWords_47 rfl (lv_at hl 3 rfl) ?_
      have he10 := zr_C2 hSh hj
      refine va_get (C := R_Rc) (T := T_Rc) (N := 2) (v := .ref (aw_c ad j 4)) hx hb hG in_Rc hown hK hP (3 + 16 * j + 2) he10 rfl 1 (by decide) (hG _ gw_0_40) (fun _ h => h) rfl d_Rc_mixKeyIntoWords_48 ?_
      clear he10
      refine lv_iload hx hb d_Rc_mixKeyIntoWords_51 (lv_at hl 1 rfl) ?_
      have he11 := zr_C4 hSh hj
      refine aw_ild hx hb hK hP (3 + 16 * j + 4) 0 he11 rfl (k := (t % 4)) (by omega) (by decide) d_Rc_mixKeyIntoWords_53 ?_
      clear he11
      refine ag_topi (fun x12 ex12 => ?_)
      refine lv_iload_n hx hb d_Rc_mixKeyIntoWords_54 rfl (lv_at hl 0 rfl) ?_
      refine lv_iadd hx hb d_Rc_mixKeyIntoWords_55 ?_
      refine ag_topi (fun x13 ex13 => ?_)
      refine lv_iload_n hx hb d_Rc_mixKeyIntoWords_56 rfl (lv_at hl 4 rfl) ?_
      refine lv_iadd hx hb d_Rc_mixKeyIntoWords_57 ?_
      refine ag_topi (fun x14 ex14 => ?_)
      refine lv_iload_n hx hb d_Rc_mixKeyIntoWords_58 rfl (lv_at hl 0 rfl) ?_
      refine lv_iload_n hx hb d_Rc_mixKeyIntoWords_59 rfl (lv_at hl 4 rfl) ?_
      refine lv_iadd hx hb d_Rc_mixKeyIntoWords_60 ?_
      refine ag_topi (fun x15 ex15 => ?_)
      refine aw_ci ((va_runSN (As := [.int x14, .int x15]) (rest := []) ⟨hx, hb, hml, hown, hG⟩ (k_Ru_turnLeftV l x14 x15) (aw_wSN 2 hG hN gw_5_5 nw_14 gw_0_1 gw_5_4 rfl rfl hd_Ru_turnLeft ⟨Nat.le_of_ble_eq_true rfl, Nat.le_of_ble_eq_true rfl⟩) aw_p0 rfl rfl hl.1 rfl (lv_room (Nat.le_of_ble_eq_true rfl)) d_Rc_mixKeyIntoWords_61 ⟨Nat.le_of_ble_eq_true rfl, Nat.le_of_ble_eq_true rfl⟩).run) (fun x16 ex16 => ?_)
      have ex16 := ex16.symm
      refine lv_istore_n hx hb d_Rc_mixKeyIntoWords_64 rfl hl (by decide) rfl (fun ls hl => ?_)
      have hl : lv_has ls 6 [(2, .int x16), (1, .int x6), (5, .int (nI (t % 4))), (4, .int (nI (t % 26))), (0, .ref (aw_c ad j 2)), (3, .int (nI t))] := hl
      refine lv_aload_n hx hb d_Rc_mixKeyIntoWords_65 rfl (lv_at hl 4 rfl) ?_
      have he17 := zr_C2 hSh hj
      refine va_get (C := R_Rc) (T := T_Rc) (N := 2) (v := .ref (aw_c ad j 4)) hx hb hG in_Rc hown hK hP (3 + 16 * j + 2) he17 rfl 1 (by decide) (hG _ gw_0_40) (fun _ h => h) rfl d_Rc_mixKeyIntoWords_66 ?_
      clear he17
      refine lv_iload hx hb d_Rc_mixKeyIntoWords_69 (lv_at hl 2 rfl) ?_
      refine lv_iload_n hx hb d_Rc_mixKeyIntoWords_71 rfl (lv_at hl 0 rfl) ?_
      have he18 := zr_C4 hSh hj
      refine ag_ist hx hb hK hP hD hS (3 + 16 * j + 4) 0 he18 rfl (k := (t % 4)) (by omega) (by decide) d_Rc_mixKeyIntoWords_72 (zw_A4w hSh hj (t % 4) x16) ?_
      clear hP hD hSh hS he18
      intro H locs L hP hD hSh hS
      obtain ⟨zA19, ezA19⟩ : ∃ z : Nat → Nat → Nat → Int32, az_w zA9 j 4 (t % 4) x16 = z := ⟨_, rfl⟩
      rw [ezA19] at hSh
      refine lv_iinc (k := 5) (v := nI (t + 1)) hx hb d_Rc_mixKeyIntoWords_73 hl rfl (aw_inc t 1 1 (by decide +kernel)) (by decide) rfl (fun ls hl => ?_)
      have hl : lv_has ls 6 [(3, .int (nI (t + 1))), (2, .int x16), (1, .int x6), (5, .int (nI (t % 4))), (4, .int (nI (t % 26))), (0, .ref (aw_c ad j 2))] := hl
      refine lv_goto (tgt := 6) hx hb d_Rc_mixKeyIntoWords_76 (by decide) ?_
      have hl := lv_sub hl (l' := [(0, .ref (aw_c ad j 2)), (1, .int x6), (2, .int x16), (3, .int (nI (t + 1)))]) [5, 2, 1, 0] rfl
      have g0 : x6 = (v_Rc_mixKeyIntoWordsV_L6 zA j (t + 1)).1 := by subst ezA19 ex16 ex15 ex14 ex13 ex12 ezA9 ex6 ex5 ex4 ex3; (rw [v_Rc_mixKeyIntoWordsV_L6_s]) <;> rfl
      have g1 : x16 = (v_Rc_mixKeyIntoWordsV_L6 zA j (t + 1)).2.1 := by subst ezA19 ex16 ex15 ex14 ex13 ex12 ezA9 ex6 ex5 ex4 ex3; (rw [v_Rc_mixKeyIntoWordsV_L6_s]) <;> rfl
      have g2 : zA19 = (v_Rc_mixKeyIntoWordsV_L6 zA j (t + 1)).2.2 := by subst ezA19 ex16 ex15 ex14 ex13 ex12 ezA9 ex6 ex5 ex4 ex3; (rw [v_Rc_mixKeyIntoWordsV_L6_s]) <;> rfl
      have hl : lv_has ls 6 [(0, .ref (aw_c ad j 2)), (1, .int ((v_Rc_mixKeyIntoWordsV_L6 zA j (t + 1)).1)), (2, .int ((v_Rc_mixKeyIntoWordsV_L6 zA j (t + 1)).2.1)), (3, .int (nI (t + 1)))] := by rw [← g0, ← g1]; exact hl
      have hSh : az_Sh g ad zG zO zX zY ((v_Rc_mixKeyIntoWordsV_L6 zA j (t + 1)).2.2) zB zM zI zL zK zN zF zQ L := by rw [← g2]; exact hSh
      exact ih (t + 1) H locs L ls (by omega) hP hD hSh hS (by first | exact hl | simpa [Nat.add_assoc, Nat.mul_add, Nat.add_comm] using hl)
  have hl := lv_sub hl (l' := [(0, .ref (aw_c ad j 2)), (1, .int (nI 0)), (2, .int (nI 0)), (3, .int (nI 0))]) [3, 2, 1, 0] rfl
  have g0 : nI 0 = (v_Rc_mixKeyIntoWordsV_L6 zA j 0).1 := by (rw [v_Rc_mixKeyIntoWordsV_L6_z]) <;> rfl
  have g1 : nI 0 = (v_Rc_mixKeyIntoWordsV_L6 zA j 0).2.1 := by (rw [v_Rc_mixKeyIntoWordsV_L6_z]) <;> rfl
  have g2 : zA = (v_Rc_mixKeyIntoWordsV_L6 zA j 0).2.2 := by (rw [v_Rc_mixKeyIntoWordsV_L6_z]) <;> rfl
  have hl : lv_has ls 6 [(0, .ref (aw_c ad j 2)), (1, .int ((v_Rc_mixKeyIntoWordsV_L6 zA j 0).1)), (2, .int ((v_Rc_mixKeyIntoWordsV_L6 zA j 0).2.1)), (3, .int (nI 0))] := by exact hl
  have hSh : az_Sh g ad zG zO zX zY ((v_Rc_mixKeyIntoWordsV_L6 zA j 0).2.2) zB zM zI zL zK zN zF zQ L := by rw [← g2]; exact hSh
  exact L6 78 0 _ _ L ls (by omega) hP hD hSh hS (by first | exact hl | simpa using hl)
noncomputable def v_Rc_scheduleV_L3 (zA : Nat → Nat → Nat → Int32) (j : Nat) (a : Int64) (b : Int64) (t : Nat) : (Nat → Nat → Nat → Int32) := Nat.rec (motive := fun _ => (Nat → Nat → Nat → Int32)) (zA) (fun t s => az_w (s) j 4 t (v_Ru_bytesReversedV (v_Ru_keyQuarterV a b (nI t)))) t
theorem v_Rc_scheduleV_L3_z (zA : Nat → Nat → Nat → Int32) (j : Nat) (a : Int64) (b : Int64) : v_Rc_scheduleV_L3 zA j a b 0 = (zA) := rfl
theorem v_Rc_scheduleV_L3_s (zA : Nat → Nat → Nat → Int32) (j : Nat) (a : Int64) (b : Int64) (t : Nat) : v_Rc_scheduleV_L3 zA j a b (t + 1) = az_w ((v_Rc_scheduleV_L3 zA j a b t)) j 4 t (v_Ru_bytesReversedV (v_Ru_keyQuarterV a b (nI t))) := rfl
noncomputable def v_Rc_scheduleV_L43 (zA : Nat → Nat → Nat → Int32) (j : Nat) (a : Int64) (b : Int64) (t : Nat) : (Nat → Nat → Nat → Int32) := Nat.rec (motive := fun _ => (Nat → Nat → Nat → Int32)) (az_w ((v_Rc_scheduleV_L3 zA j a b 4)) j 3 0 (-1209970333)) (fun t s => az_w (s) j 3 (1 + t) (((s) j 3 ((1 + t) - 1)) + (-1640531527))) t
theorem v_Rc_scheduleV_L43_z (zA : Nat → Nat → Nat → Int32) (j : Nat) (a : Int64) (b : Int64) : v_Rc_scheduleV_L43 zA j a b 0 = (az_w ((v_Rc_scheduleV_L3 zA j a b 4)) j 3 0 (-1209970333)) := rfl
theorem v_Rc_scheduleV_L43_s (zA : Nat → Nat → Nat → Int32) (j : Nat) (a : Int64) (b : Int64) (t : Nat) : v_Rc_scheduleV_L43 zA j a b (t + 1) = az_w ((v_Rc_scheduleV_L43 zA j a b t)) j 3 (1 + t) ((((v_Rc_scheduleV_L43 zA j a b t)) j 3 ((1 + t) - 1)) + (-1640531527)) := rfl
noncomputable def v_Rc_scheduleV_zA (zA : Nat → Nat → Nat → Int32) (j : Nat) (a : Int64) (b : Int64) : Nat → Nat → Nat → Int32 := v_Rc_mixKeyIntoWordsV_zA ((v_Rc_scheduleV_L43 zA j a b 25)) j
abbrev ws_Rc_scheduleV : List Cond := Cond.code y_Rc_schedule b_Rc_schedule 6 none :: aw_G
abbrev rm_Rc_scheduleV : Room := { frames := 2, cells := 0, slots := 0, locals := 47 }
set_option maxHeartbeats 4000000 in
set_option maxRecDepth 100000 in
theorem k_Rc_scheduleV (l : Launch) (D : va_G) (g : Nat → ClassId) (ad : Nat → Nat) (N0 : Nat) (zG : Nat → Nat × Nat) (zO : Nat → Nat) (zX : Nat → Nat → Int64) (zY : Nat → Nat → Int32) (zA : Nat → Nat → Nat → Int32) (zB : Nat → Int32) (zM : Nat → Nat × Nat) (zI : Nat → Nat → Int32) (zL : Nat → Nat → Int64) (zK : Int32) (zN : Nat) (zF : Int32) (zQ : Int64) (j : Nat) (a : Int64) (b : Int64) (hj : j < 4) : Met l y_Rc_schedule ws_Rc_scheduleV rm_Rc_scheduleV (va_Pc ([.ref (aw_c ad j 2), .long a, .long b] : List Value) (ag_B D g N0 (az_Sh g ad zG zO zX zY zA zB zM zI zL zK zN zF zQ))) (va_Qv (fun (_ : Unit) => True) (fun (_ : Unit) t => ag_H D N0 (az_Sh g ad zG zO zX zY (v_Rc_scheduleV_zA zA j a b) zB zM zI zL zK zN zF zQ) t.heap) (aw_Z N0)) 0 0 (aw_Z N0) := by
  refine Met.ofW (cc := b_Rc_schedule) (maxL := 6) (ret := none) (by decide) rfl ?_
  intro p e s m args below meth c s₁ B hml hv
  obtain ⟨rfl, ⟨L, hP, hD, hSh⟩, hU⟩ := hv
  have hx := B.exec
  have hb := B.bytes
  have hr := B.returns
  have hG : ∀ w ∈ aw_G, w.before _ s = true := fun w h => atoms_spec (ws := ws_Rc_scheduleV) B.pre w (List.mem_cons_of_mem _ h)
  have hown : s.vm.findClass "RuleCiphers$Rc5" = some m.cls := findClass_of_methodNamed B.named
  have hlocks := B.notSynchronized
  have hE := hU.1
  have hK := hE.1
  have hN := hE.2.1
  have hS : va_S (aw_Z N0) s.heap s.heap [] := va_S.rf
  have hl := lv_entry ([.ref (aw_c ad j 2), .long a, .long b] : List Value) (n := 6) (Nat.le_of_ble_eq_true rfl)
  rw [lg_entry_eq]
  generalize (lg_sl ([.ref (aw_c ad j 2), .long a, .long b] : List Value) ++ List.replicate (6 - (lg_sl ([.ref (aw_c ad j 2), .long a, .long b] : List Value)).length) Slot.unset).toArray = ls at hl ⊢
  have hl : lv_has ls 6 [(0, .ref (aw_c ad j 2)), (1, .long a), (3, .long b)] := hl
  refine lv_iconst (v := nI 0) hx hb d_Rc_schedule_0 (by decide +kernel) ?_
  refine lv_istore hx hb d_Rc_schedule_1 hl (by decide) rfl (fun ls hl => ?_)
  have hl : lv_has ls 6 [(5, .int (nI 0)), (0, .ref (aw_c ad j 2)), (1, .long a), (3, .long b)] := hl
  have L3 : ∀ (d t : Nat) (H : Heap) (locs : List Loc) (L : va_W) (ls : Array Slot), t + d = 4 → va_P D aw_C L H → va_D (aw_Z N0) L → az_Sh g ad zG zO zX zY ((v_Rc_scheduleV_L3 zA j a b t)) zB zM zI zL zK zN zF zQ L → va_S (aw_Z N0) s.heap H locs → lv_has ls 6 [(0, .ref (aw_c ad j 2)), (1, .long a), (3, .long b), (5, .int (nI t))] → W p l e (headSpec ws_Rc_scheduleV rm_Rc_scheduleV).room s m ([.ref (aw_c ad j 2), .long a, .long b] : List Value).toArray below meth c H locs 0 0 (MQ below (va_Qv (fun (_ : Unit) => True) (fun (_ : Unit) t => ag_H D N0 (az_Sh g ad zG zO zX zY (v_Rc_scheduleV_zA zA j a b) zB zM zI zL zK zN zF zQ) t.heap) (aw_Z N0)) ([.ref (aw_c ad j 2), .long a, .long b] : List Value).toArray s 0 0 (aw_Z N0)) (F0 m 3 ls []) := by
    clear hl hP hD hSh hS
    intro d
    induction d with
    | zero =>
      intro t H locs L ls ht0 hP hD hSh hS hl
      have ht1 : t = 4 := by omega
      subst ht1
      refine lv_iload hx hb d_Rc_schedule_3 (lv_at hl 3 rfl) ?_
      refine lv_iconst (v := nI 4) hx hb d_Rc_schedule_5 (by decide +kernel) ?_
      refine lv_icmp_ge (tgt := 32) hx hb d_Rc_schedule_6 (by decide) (fun _ => ?_) (fun h => absurd (show nI 4 ≤ nI 4 from (nI_leI (by omega) (by omega)).mpr (by omega)) h)
      refine lv_aload_n hx hb d_Rc_schedule_32 rfl (lv_at hl 0 rfl) ?_
      have he1 := zr_C2 hSh hj
      refine va_get (C := R_Rc) (T := T_Rc) (N := 2) (v := .ref (aw_c ad j 3)) hx hb hG in_Rc hown hK hP (3 + 16 * j + 2) he1 rfl 0 (by decide) (hG _ gw_0_50) (fun x9 h9 => u_same (hG _ gw_0_51) x9 h9) rfl d_Rc_schedule_33 ?_
      clear he1
      refine lv_iconst (v := nI 0) hx hb d_Rc_schedule_36 (by decide +kernel) ?_
      refine lv_ldc (v := (-1209970333)) hx hb hown (hG _ gw_4_59) d_Rc_schedule_37 ?_
      have he2 := zr_C3 hSh hj
      refine ag_ist hx hb hK hP hD hS (3 + 16 * j + 3) 0 he2 rfl (k := 0) (by omega) (by decide) d_Rc_schedule_39 (zw_A3w hSh hj 0 ((-1209970333))) ?_
      clear hP hD hSh hS he2
      intro H locs L hP hD hSh hS
      obtain ⟨zA3, ezA3⟩ : ∃ z : Nat → Nat → Nat → Int32, az_w ((v_Rc_scheduleV_L3 zA j a b 4)) j 3 0 ((-1209970333)) = z := ⟨_, rfl⟩
      rw [ezA3] at hSh
      refine lv_iconst (v := nI 1) hx hb d_Rc_schedule_40 (by decide +kernel) ?_
      refine lv_istore hx hb d_Rc_schedule_41 hl (by decide) rfl (fun ls hl => ?_)
      have hl : lv_has ls 6 [(5, .int (nI 1)), (0, .ref (aw_c ad j 2)), (1, .long a), (3, .long b)] := hl
      have L43 : ∀ (d t : Nat) (H : Heap) (locs : List Loc) (L : va_W) (ls : Array Slot), t + d = 25 → va_P D aw_C L H → va_D (aw_Z N0) L → az_Sh g ad zG zO zX zY ((v_Rc_scheduleV_L43 zA j a b t)) zB zM zI zL zK zN zF zQ L → va_S (aw_Z N0) s.heap H locs → lv_has ls 6 [(0, .ref (aw_c ad j 2)), (1, .long a), (3, .long b), (5, .int (nI (1 + t)))] → W p l e (headSpec ws_Rc_scheduleV rm_Rc_scheduleV).room s m ([.ref (aw_c ad j 2), .long a, .long b] : List Value).toArray below meth c H locs 0 0 (MQ below (va_Qv (fun (_ : Unit) => True) (fun (_ : Unit) t => ag_H D N0 (az_Sh g ad zG zO zX zY (v_Rc_scheduleV_zA zA j a b) zB zM zI zL zK zN zF zQ) t.heap) (aw_Z N0)) ([.ref (aw_c ad j 2), .long a, .long b] : List Value).toArray s 0 0 (aw_Z N0)) (F0 m 43 ls []) := by
        clear hl hP hD hSh hS
        intro d
        induction d with
        | zero =>
          intro t H locs L ls ht0 hP hD hSh hS hl
          have ht1 : t = 25 := by omega
          subst ht1
          refine lv_iload hx hb d_Rc_schedule_43 (lv_at hl 3 rfl) ?_
          refine lv_bipush (v := nI 26) hx hb d_Rc_schedule_45 (by decide +kernel) ?_
          refine lv_icmp_ge (tgt := 75) hx hb d_Rc_schedule_47 (by decide) (fun _ => ?_) (fun h => absurd (show nI 26 ≤ nI (1 + 25) from (nI_leI (by omega) (by omega)).mpr (by omega)) h)
          refine lv_aload_n hx hb d_Rc_schedule_75 rfl (lv_at hl 0 rfl) ?_
          have he4 := zr_C2 hSh hj
          refine va_callv (va_runV (As := []) (rest := []) ⟨hx, hb, hml, hown, hG⟩ (k_Rc_mixKeyIntoWordsV l D g ad N0 zG zO zX zY ((v_Rc_scheduleV_L43 zA j a b 25)) zB zM zI zL zK zN zF zQ j hj) (aw_wV 0 hG gw_5_3 gw_5_1 gw_0_4 gw_5_2 gw_p_1 rfl rfl hd_Rc_mixKeyIntoWords ⟨Nat.le_of_ble_eq_true rfl, Nat.le_of_ble_eq_true rfl⟩) (ag_qV (va_recv hK hP rfl he4) hP hD hSh hU hS) rfl rfl hl.1 rfl (lv_room (Nat.le_of_ble_eq_true rfl)) d_Rc_schedule_76 ⟨Nat.le_of_ble_eq_true rfl, Nat.le_of_ble_eq_true rfl⟩) hS (fun _ _ h => h) (fun _ h => h) ?_
          clear hP hD hSh hS he4
          intro u8 t8 H locs ht _ _ hB _ _ hS
          obtain ⟨L, hP, hD, hSh⟩ := hB
          rw [ht] at hP
          clear ht
          obtain ⟨zA5, ezA5⟩ : ∃ z : Nat → Nat → Nat → Int32, v_Rc_mixKeyIntoWordsV_zA ((v_Rc_scheduleV_L43 zA j a b 25)) j = z := ⟨_, rfl⟩
          rw [ezA5] at hSh
          have gzA : zA5 = v_Rc_scheduleV_zA zA j a b := by subst ezA5 ezA3; rfl
          have hSh : az_Sh g ad zG zO zX zY (v_Rc_scheduleV_zA zA j a b) zB zM zI zL zK zN zF zQ L := by rw [← gzA]; exact hSh
          exact W.vret hx hb hr (fun t ht hW => ⟨⟨(), rfl, trivial, ag_Hr ht hP hD hSh⟩, hS.F ht⟩) hS.2.2 d_Rc_schedule_79
        | succ d ih =>
          intro t H locs L ls ht0 hP hD hSh hS hl
          refine lv_iload hx hb d_Rc_schedule_43 (lv_at hl 3 rfl) ?_
          refine lv_bipush (v := nI 26) hx hb d_Rc_schedule_45 (by decide +kernel) ?_
          refine lv_icmp_ge (tgt := 75) hx hb d_Rc_schedule_47 (by decide) (fun h => absurd h (show ¬ nI 26 ≤ nI (1 + t) from fun h9 => absurd ((nI_leI (by omega) (by omega)).mp h9) (by omega))) (fun _ => ?_)
          refine lv_aload_n hx hb d_Rc_schedule_50 rfl (lv_at hl 0 rfl) ?_
          have he6 := zr_C2 hSh hj
          refine va_get (C := R_Rc) (T := T_Rc) (N := 2) (v := .ref (aw_c ad j 3)) hx hb hG in_Rc hown hK hP (3 + 16 * j + 2) he6 rfl 0 (by decide) (hG _ gw_0_50) (fun x9 h9 => u_same (hG _ gw_0_51) x9 h9) rfl d_Rc_schedule_51 ?_
          clear he6
          refine lv_iload hx hb d_Rc_schedule_54 (lv_at hl 3 rfl) ?_
          refine lv_aload_n hx hb d_Rc_schedule_56 rfl (lv_at hl 0 rfl) ?_
          have he7 := zr_C2 hSh hj
          refine va_get (C := R_Rc) (T := T_Rc) (N := 2) (v := .ref (aw_c ad j 3)) hx hb hG in_Rc hown hK hP (3 + 16 * j + 2) he7 rfl 0 (by decide) (hG _ gw_0_50) (fun x9 h9 => u_same (hG _ gw_0_51) x9 h9) rfl d_Rc_schedule_57 ?_
          clear he7
          refine lv_iload hx hb d_Rc_schedule_60 (lv_at hl 3 rfl) ?_
          refine lv_iconst (v := nI 1) hx hb d_Rc_schedule_62 (by decide +kernel) ?_
          refine lv_isub hx hb d_Rc_schedule_63 ?_
          refine aw_ti (pk_sub (a := (1 + t)) (b := 1) (by omega)) ?_
          have he8 := zr_C3 hSh hj
          refine aw_ild hx hb hK hP (3 + 16 * j + 3) 0 he8 rfl (k := ((1 + t) - 1)) (by omega) (by decide) d_Rc_schedule_64 ?_
          clear he8
          refine ag_topi (fun x9 ex9 => ?_)
          refine lv_ldc (v := (-1640531527)) hx hb hown (hG _ gw_5_0) d_Rc_schedule_65 ?_
          refine lv_iadd hx hb d_Rc_schedule_67 ?_
          refine ag_topi (fun x10 ex10 => ?_)
          have he11 := zr_C3 hSh hj
          refine ag_ist hx hb hK hP hD hS (3 + 16 * j + 3) 0 he11 rfl (k := (1 + t)) (by omega) (by decide) d_Rc_schedule_68 (zw_A3w hSh hj (1 + t) x10) ?_
          clear hP hD hSh hS he11
          intro H locs L hP hD hSh hS
          obtain ⟨zA12, ezA12⟩ : ∃ z : Nat → Nat → Nat → Int32, az_w ((v_Rc_scheduleV_L43 zA j a b t)) j 3 (1 + t) x10 = z := ⟨_, rfl⟩
          rw [ezA12] at hSh
          refine lv_iinc (k := 3) (v := nI (1 + t + 1)) hx hb d_Rc_schedule_69 hl rfl (aw_inc (1 + t) 1 1 (by decide +kernel)) (by decide) rfl (fun ls hl => ?_)
          have hl : lv_has ls 6 [(5, .int (nI (1 + t + 1))), (0, .ref (aw_c ad j 2)), (1, .long a), (3, .long b)] := hl
          refine lv_goto (tgt := 43) hx hb d_Rc_schedule_72 (by decide) ?_
          have hl := lv_sub hl (l' := [(0, .ref (aw_c ad j 2)), (1, .long a), (3, .long b), (5, .int (nI (1 + t + 1)))]) [1, 2, 3, 0] rfl
          have g0 : zA12 = (v_Rc_scheduleV_L43 zA j a b (t + 1)) := by subst ezA12 ex10 ex9 ezA3; (rw [v_Rc_scheduleV_L43_s]) <;> rfl
          have hSh : az_Sh g ad zG zO zX zY ((v_Rc_scheduleV_L43 zA j a b (t + 1))) zB zM zI zL zK zN zF zQ L := by rw [← g0]; exact hSh
          exact ih (t + 1) H locs L ls (by omega) hP hD hSh hS (by first | exact hl | simpa [Nat.add_assoc, Nat.mul_add, Nat.add_comm] using hl)
      have hl := lv_sub hl (l' := [(0, .ref (aw_c ad j 2)), (1, .long a), (3, .long b), (5, .int (nI 1))]) [1, 2, 3, 0] rfl
      have g0 : zA3 = (v_Rc_scheduleV_L43 zA j a b 0) := by subst ezA3; (rw [v_Rc_scheduleV_L43_z]) <;> rfl
      have hSh : az_Sh g ad zG zO zX zY ((v_Rc_scheduleV_L43 zA j a b 0)) zB zM zI zL zK zN zF zQ L := by rw [← g0]; exact hSh
      exact L43 25 0 _ _ L ls (by omega) hP hD hSh hS (by first | exact hl | simpa using hl)
    | succ d ih =>
      intro t H locs L ls ht0 hP hD hSh hS hl
      refine lv_iload hx hb d_Rc_schedule_3 (lv_at hl 3 rfl) ?_
      refine lv_iconst (v := nI 4) hx hb d_Rc_schedule_5 (by decide +kernel) ?_
      refine lv_icmp_ge (tgt := 32) hx hb d_Rc_schedule_6 (by decide) (fun h => absurd h (show ¬ nI 4 ≤ nI t from fun h9 => absurd ((nI_leI (by omega) (by omega)).mp h9) (by omega))) (fun _ => ?_)
      refine lv_aload_n hx hb d_Rc_schedule_9 rfl (lv_at hl 0 rfl) ?_
      have he13 := zr_C2 hSh hj
      refine va_get (C := R_Rc) (T := T_Rc) (N := 2) (v := .ref (aw_c ad j 4)) hx hb hG in_Rc hown hK hP (3 + 16 * j + 2) he13 rfl 1 (by decide) (hG _ gw_0_40) (fun _ h => h) rfl d_Rc_schedule_10 ?_
      clear he13
      refine lv_iload hx hb d_Rc_schedule_13 (lv_at hl 3 rfl) ?_
      refine lv_lload_n hx hb d_Rc_schedule_15 rfl (lv_at hl 1 rfl) ?_
      refine lv_lload_n hx hb d_Rc_schedule_16 rfl (lv_at hl 2 rfl) ?_
      refine lv_iload hx hb d_Rc_schedule_17 (lv_at hl 3 rfl) ?_
      refine aw_ci ((va_runSN (As := [.long a, .long b, .int (nI t)]) (rest := [.int (nI t), .ref (aw_c ad j 4)]) ⟨hx, hb, hml, hown, hG⟩ (k_Ru_keyQuarterV l a b (nI t)) (aw_wSN 3 hG hN gw_4_49 nw_12 gw_0_1 gw_4_48 rfl rfl hd_Ru_keyQuarter ⟨Nat.le_of_ble_eq_true rfl, Nat.le_of_ble_eq_true rfl⟩) aw_p0 rfl rfl hl.1 rfl (lv_room (Nat.le_of_ble_eq_true rfl)) d_Rc_schedule_19 ⟨Nat.le_of_ble_eq_true rfl, Nat.le_of_ble_eq_true rfl⟩).run) (fun x14 ex14 => ?_)
      have ex14 := ex14.symm
      refine aw_ci ((va_runSN (As := [.int x14]) (rest := [.int (nI t), .ref (aw_c ad j 4)]) ⟨hx, hb, hml, hown, hG⟩ (k_Ru_bytesReversedV l x14) (aw_wSN 1 hG hN gw_4_57 nw_13 gw_0_1 gw_4_56 rfl rfl hd_Ru_bytesReversed ⟨Nat.le_of_ble_eq_true rfl, Nat.le_of_ble_eq_true rfl⟩) aw_p0 rfl rfl hl.1 rfl (lv_room (Nat.le_of_ble_eq_true rfl)) d_Rc_schedule_22 ⟨Nat.le_of_ble_eq_true rfl, Nat.le_of_ble_eq_true rfl⟩).run) (fun x15 ex15 => ?_)
      have ex15 := ex15.symm
      have he16 := zr_C4 hSh hj
      refine ag_ist hx hb hK hP hD hS (3 + 16 * j + 4) 0 he16 rfl (k := t) (by omega) (by decide) d_Rc_schedule_25 (zw_A4w hSh hj t x15) ?_
      clear hP hD hSh hS he16
      intro H locs L hP hD hSh hS
      obtain ⟨zA17, ezA17⟩ : ∃ z : Nat → Nat → Nat → Int32, az_w ((v_Rc_scheduleV_L3 zA j a b t)) j 4 t x15 = z := ⟨_, rfl⟩
      rw [ezA17] at hSh
      refine lv_iinc (k := 3) (v := nI (t + 1)) hx hb d_Rc_schedule_26 hl rfl (aw_inc t 1 1 (by decide +kernel)) (by decide) rfl (fun ls hl => ?_)
      have hl : lv_has ls 6 [(5, .int (nI (t + 1))), (0, .ref (aw_c ad j 2)), (1, .long a), (3, .long b)] := hl
      refine lv_goto (tgt := 3) hx hb d_Rc_schedule_29 (by decide) ?_
      have hl := lv_sub hl (l' := [(0, .ref (aw_c ad j 2)), (1, .long a), (3, .long b), (5, .int (nI (t + 1)))]) [1, 2, 3, 0] rfl
      have g0 : zA17 = (v_Rc_scheduleV_L3 zA j a b (t + 1)) := by subst ezA17 ex15 ex14; (rw [v_Rc_scheduleV_L3_s]) <;> rfl
      have hSh : az_Sh g ad zG zO zX zY ((v_Rc_scheduleV_L3 zA j a b (t + 1))) zB zM zI zL zK zN zF zQ L := by rw [← g0]; exact hSh
      exact ih (t + 1) H locs L ls (by omega) hP hD hSh hS (by first | exact hl | simpa [Nat.add_assoc, Nat.mul_add, Nat.add_comm] using hl)
  have hl := lv_sub hl (l' := [(0, .ref (aw_c ad j 2)), (1, .long a), (3, .long b), (5, .int (nI 0))]) [1, 2, 3, 0] rfl
  have g0 : zA = (v_Rc_scheduleV_L3 zA j a b 0) := by (rw [v_Rc_scheduleV_L3_z]) <;> rfl
  have hSh : az_Sh g ad zG zO zX zY ((v_Rc_scheduleV_L3 zA j a b 0)) zB zM zI zL zK zN zF zQ L := by rw [← g0]; exact hSh
  exact L3 4 0 _ _ L ls (by omega) hP hD hSh hS (by first | exact hl | simpa using hl)
noncomputable def v_Xt_scheduleV_L3 (zA : Nat → Nat → Nat → Int32) (j : Nat) (a : Int64) (b : Int64) (t : Nat) : (Nat → Nat → Nat → Int32) := Nat.rec (motive := fun _ => (Nat → Nat → Nat → Int32)) (zA) (fun t s => az_w (s) j 6 t (v_Ru_keyQuarterV a b (nI t))) t
theorem v_Xt_scheduleV_L3_z (zA : Nat → Nat → Nat → Int32) (j : Nat) (a : Int64) (b : Int64) : v_Xt_scheduleV_L3 zA j a b 0 = (zA) := rfl
theorem v_Xt_scheduleV_L3_s (zA : Nat → Nat → Nat → Int32) (j : Nat) (a : Int64) (b : Int64) (t : Nat) : v_Xt_scheduleV_L3 zA j a b (t + 1) = az_w ((v_Xt_scheduleV_L3 zA j a b t)) j 6 t (v_Ru_keyQuarterV a b (nI t)) := rfl
noncomputable def v_Xt_scheduleV_zA (zA : Nat → Nat → Nat → Int32) (j : Nat) (a : Int64) (b : Int64) : Nat → Nat → Nat → Int32 := (v_Xt_scheduleV_L3 zA j a b 4)
abbrev ws_Xt_scheduleV : List Cond := Cond.code y_Xt_schedule b_Xt_schedule 6 none :: aw_G
abbrev rm_Xt_scheduleV : Room := { frames := 2, cells := 0, slots := 0, locals := 47 }
set_option maxHeartbeats 4000000 in
set_option maxRecDepth 100000 in
theorem k_Xt_scheduleV (l : Launch) (D : va_G) (g : Nat → ClassId) (ad : Nat → Nat) (N0 : Nat) (zG : Nat → Nat × Nat) (zO : Nat → Nat) (zX : Nat → Nat → Int64) (zY : Nat → Nat → Int32) (zA : Nat → Nat → Nat → Int32) (zB : Nat → Int32) (zM : Nat → Nat × Nat) (zI : Nat → Nat → Int32) (zL : Nat → Nat → Int64) (zK : Int32) (zN : Nat) (zF : Int32) (zQ : Int64) (j : Nat) (a : Int64) (b : Int64) (hj : j < 4) : Met l y_Xt_schedule ws_Xt_scheduleV rm_Xt_scheduleV (va_Pc ([.ref (aw_c ad j 5), .long a, .long b] : List Value) (ag_B D g N0 (az_Sh g ad zG zO zX zY zA zB zM zI zL zK zN zF zQ))) (va_Qv (fun (_ : Unit) => True) (fun (_ : Unit) t => ag_H D N0 (az_Sh g ad zG zO zX zY (v_Xt_scheduleV_zA zA j a b) zB zM zI zL zK zN zF zQ) t.heap) (aw_Z N0)) 0 0 (aw_Z N0) := by
  refine Met.ofW (cc := b_Xt_schedule) (maxL := 6) (ret := none) (by decide) rfl ?_
  intro p e s m args below meth c s₁ B hml hv
  obtain ⟨rfl, ⟨L, hP, hD, hSh⟩, hU⟩ := hv
  have hx := B.exec
  have hb := B.bytes
  have hr := B.returns
  have hG : ∀ w ∈ aw_G, w.before _ s = true := fun w h => atoms_spec (ws := ws_Xt_scheduleV) B.pre w (List.mem_cons_of_mem _ h)
  have hown : s.vm.findClass "RuleCiphers$Xtea" = some m.cls := findClass_of_methodNamed B.named
  have hlocks := B.notSynchronized
  have hE := hU.1
  have hK := hE.1
  have hN := hE.2.1
  have hS : va_S (aw_Z N0) s.heap s.heap [] := va_S.rf
  have hl := lv_entry ([.ref (aw_c ad j 5), .long a, .long b] : List Value) (n := 6) (Nat.le_of_ble_eq_true rfl)
  rw [lg_entry_eq]
  generalize (lg_sl ([.ref (aw_c ad j 5), .long a, .long b] : List Value) ++ List.replicate (6 - (lg_sl ([.ref (aw_c ad j 5), .long a, .long b] : List Value)).length) Slot.unset).toArray = ls at hl ⊢
  have hl : lv_has ls 6 [(0, .ref (aw_c ad j 5)), (1, .long a), (3, .long b)] := hl
  refine lv_iconst (v := nI 0) hx hb d_Xt_schedule_0 (by decide +kernel) ?_
  refine lv_istore hx hb d_Xt_schedule_1 hl (by decide) rfl (fun ls hl => ?_)
  have hl : lv_has ls 6 [(5, .int (nI 0)), (0, .ref (aw_c ad j 5)), (1, .long a), (3, .long b)] := hl
  have L3 : ∀ (d t : Nat) (H : Heap) (locs : List Loc) (L : va_W) (ls : Array Slot), t + d = 4 → va_P D aw_C L H → va_D (aw_Z N0) L → az_Sh g ad zG zO zX zY ((v_Xt_scheduleV_L3 zA j a b t)) zB zM zI zL zK zN zF zQ L → va_S (aw_Z N0) s.heap H locs → lv_has ls 6 [(0, .ref (aw_c ad j 5)), (1, .long a), (3, .long b), (5, .int (nI t))] → W p l e (headSpec ws_Xt_scheduleV rm_Xt_scheduleV).room s m ([.ref (aw_c ad j 5), .long a, .long b] : List Value).toArray below meth c H locs 0 0 (MQ below (va_Qv (fun (_ : Unit) => True) (fun (_ : Unit) t => ag_H D N0 (az_Sh g ad zG zO zX zY (v_Xt_scheduleV_zA zA j a b) zB zM zI zL zK zN zF zQ) t.heap) (aw_Z N0)) ([.ref (aw_c ad j 5), .long a, .long b] : List Value).toArray s 0 0 (aw_Z N0)) (F0 m 3 ls []) := by
    clear hl hP hD hSh hS
    intro d
    induction d with
    | zero =>
      intro t H locs L ls ht0 hP hD hSh hS hl
      have ht1 : t = 4 := by omega
      subst ht1
      refine lv_iload hx hb d_Xt_schedule_3 (lv_at hl 3 rfl) ?_
      refine lv_iconst (v := nI 4) hx hb d_Xt_schedule_5 (by decide +kernel) ?_
      refine lv_icmp_ge (tgt := 29) hx hb d_Xt_schedule_6 (by decide) (fun _ => ?_) (fun h => absurd (show nI 4 ≤ nI 4 from (nI_leI (by omega) (by omega)).mpr (by omega)) h)
      have gzA : (v_Xt_scheduleV_L3 zA j a b 4) = v_Xt_scheduleV_zA zA j a b := by rfl
      have hSh : az_Sh g ad zG zO zX zY (v_Xt_scheduleV_zA zA j a b) zB zM zI zL zK zN zF zQ L := by rw [← gzA]; exact hSh
      exact W.vret hx hb hr (fun t ht hW => ⟨⟨(), rfl, trivial, ag_Hr ht hP hD hSh⟩, hS.F ht⟩) hS.2.2 d_Xt_schedule_29
    | succ d ih =>
      intro t H locs L ls ht0 hP hD hSh hS hl
      refine lv_iload hx hb d_Xt_schedule_3 (lv_at hl 3 rfl) ?_
      refine lv_iconst (v := nI 4) hx hb d_Xt_schedule_5 (by decide +kernel) ?_
      refine lv_icmp_ge (tgt := 29) hx hb d_Xt_schedule_6 (by decide) (fun h => absurd h (show ¬ nI 4 ≤ nI t from fun h9 => absurd ((nI_leI (by omega) (by omega)).mp h9) (by omega))) (fun _ => ?_)
      refine lv_aload_n hx hb d_Xt_schedule_9 rfl (lv_at hl 0 rfl) ?_
      have he1 := zr_C5 hSh hj
      refine va_get (C := R_Xt) (T := T_Xt) (N := 1) (v := .ref (aw_c ad j 6)) hx hb hG in_Xt hown hK hP (3 + 16 * j + 5) he1 rfl 0 (by decide) (hG _ gw_0_44) (fun x9 h9 => u_same (hG _ gw_0_45) x9 h9) rfl d_Xt_schedule_10 ?_
      clear he1
      refine lv_iload hx hb d_Xt_schedule_13 (lv_at hl 3 rfl) ?_
      refine lv_lload_n hx hb d_Xt_schedule_15 rfl (lv_at hl 1 rfl) ?_
      refine lv_lload_n hx hb d_Xt_schedule_16 rfl (lv_at hl 2 rfl) ?_
      refine lv_iload hx hb d_Xt_schedule_17 (lv_at hl 3 rfl) ?_
      refine aw_ci ((va_runSN (As := [.long a, .long b, .int (nI t)]) (rest := [.int (nI t), .ref (aw_c ad j 6)]) ⟨hx, hb, hml, hown, hG⟩ (k_Ru_keyQuarterV l a b (nI t)) (aw_wSN 3 hG hN gw_4_49 nw_20 gw_0_1 gw_4_48 rfl rfl hd_Ru_keyQuarter ⟨Nat.le_of_ble_eq_true rfl, Nat.le_of_ble_eq_true rfl⟩) aw_p0 rfl rfl hl.1 rfl (lv_room (Nat.le_of_ble_eq_true rfl)) d_Xt_schedule_19 ⟨Nat.le_of_ble_eq_true rfl, Nat.le_of_ble_eq_true rfl⟩).run) (fun x2 ex2 => ?_)
      have ex2 := ex2.symm
      have he3 := zr_C6 hSh hj
      refine ag_ist hx hb hK hP hD hS (3 + 16 * j + 6) 0 he3 rfl (k := t) (by omega) (by decide) d_Xt_schedule_22 (zw_A6w hSh hj t x2) ?_
      clear hP hD hSh hS he3
      intro H locs L hP hD hSh hS
      obtain ⟨zA4, ezA4⟩ : ∃ z : Nat → Nat → Nat → Int32, az_w ((v_Xt_scheduleV_L3 zA j a b t)) j 6 t x2 = z := ⟨_, rfl⟩
      rw [ezA4] at hSh
      refine lv_iinc (k := 3) (v := nI (t + 1)) hx hb d_Xt_schedule_23 hl rfl (aw_inc t 1 1 (by decide +kernel)) (by decide) rfl (fun ls hl => ?_)
      have hl : lv_has ls 6 [(5, .int (nI (t + 1))), (0, .ref (aw_c ad j 5)), (1, .long a), (3, .long b)] := hl
      refine lv_goto (tgt := 3) hx hb d_Xt_schedule_26 (by decide) ?_
      have hl := lv_sub hl (l' := [(0, .ref (aw_c ad j 5)), (1, .long a), (3, .long b), (5, .int (nI (t + 1)))]) [1, 2, 3, 0] rfl
      have g0 : zA4 = (v_Xt_scheduleV_L3 zA j a b (t + 1)) := by subst ezA4 ex2; (rw [v_Xt_scheduleV_L3_s]) <;> rfl
      have hSh : az_Sh g ad zG zO zX zY ((v_Xt_scheduleV_L3 zA j a b (t + 1))) zB zM zI zL zK zN zF zQ L := by rw [← g0]; exact hSh
      exact ih (t + 1) H locs L ls (by omega) hP hD hSh hS (by first | exact hl | simpa [Nat.add_assoc, Nat.mul_add, Nat.add_comm] using hl)
  have hl := lv_sub hl (l' := [(0, .ref (aw_c ad j 5)), (1, .long a), (3, .long b), (5, .int (nI 0))]) [1, 2, 3, 0] rfl
  have g0 : zA = (v_Xt_scheduleV_L3 zA j a b 0) := by (rw [v_Xt_scheduleV_L3_z]) <;> rfl
  have hSh : az_Sh g ad zG zO zX zY ((v_Xt_scheduleV_L3 zA j a b 0)) zB zM zI zL zK zN zF zQ L := by rw [← g0]; exact hSh
  exact L3 4 0 _ _ L ls (by omega) hP hD hSh hS (by first | exact hl | simpa using hl)
noncomputable def v_Sp_scheduleV_L3 (zA : Nat → Nat → Nat → Int32) (j : Nat) (a : Int64) (b : Int64) (t : Nat) : (Nat → Nat → Nat → Int32) := Nat.rec (motive := fun _ => (Nat → Nat → Nat → Int32)) (zA) (fun t s => az_w (s) j 9 (2 - t) (v_Ru_keyQuarterV a b (nI t))) t
theorem v_Sp_scheduleV_L3_z (zA : Nat → Nat → Nat → Int32) (j : Nat) (a : Int64) (b : Int64) : v_Sp_scheduleV_L3 zA j a b 0 = (zA) := rfl
theorem v_Sp_scheduleV_L3_s (zA : Nat → Nat → Nat → Int32) (j : Nat) (a : Int64) (b : Int64) (t : Nat) : v_Sp_scheduleV_L3 zA j a b (t + 1) = az_w ((v_Sp_scheduleV_L3 zA j a b t)) j 9 (2 - t) (v_Ru_keyQuarterV a b (nI t)) := rfl
noncomputable def v_Sp_scheduleV_L46 (zA : Nat → Nat → Nat → Int32) (j : Nat) (a : Int64) (b : Int64) (t : Nat) : (Nat → Nat → Nat → Int32) := Nat.rec (motive := fun _ => (Nat → Nat → Nat → Int32)) (az_w ((v_Sp_scheduleV_L3 zA j a b 3)) j 8 0 (v_Ru_keyQuarterV a b (nI 3))) (fun t s => az_w (az_w (s) j 9 (t % 3) ((((s) j 8 t) + (v_Ru_turnRightV ((s) j 9 (t % 3)) (nI 8))) ^^^ (nI t))) j 8 (t + 1) ((v_Ru_turnLeftV ((az_w (s) j 9 (t % 3) ((((s) j 8 t) + (v_Ru_turnRightV ((s) j 9 (t % 3)) (nI 8))) ^^^ (nI t))) j 8 t) (nI 3)) ^^^ ((((s) j 8 t) + (v_Ru_turnRightV ((s) j 9 (t % 3)) (nI 8))) ^^^ (nI t)))) t
theorem v_Sp_scheduleV_L46_z (zA : Nat → Nat → Nat → Int32) (j : Nat) (a : Int64) (b : Int64) : v_Sp_scheduleV_L46 zA j a b 0 = (az_w ((v_Sp_scheduleV_L3 zA j a b 3)) j 8 0 (v_Ru_keyQuarterV a b (nI 3))) := rfl
theorem v_Sp_scheduleV_L46_s (zA : Nat → Nat → Nat → Int32) (j : Nat) (a : Int64) (b : Int64) (t : Nat) : v_Sp_scheduleV_L46 zA j a b (t + 1) = az_w (az_w ((v_Sp_scheduleV_L46 zA j a b t)) j 9 (t % 3) (((((v_Sp_scheduleV_L46 zA j a b t)) j 8 t) + (v_Ru_turnRightV (((v_Sp_scheduleV_L46 zA j a b t)) j 9 (t % 3)) (nI 8))) ^^^ (nI t))) j 8 (t + 1) ((v_Ru_turnLeftV ((az_w ((v_Sp_scheduleV_L46 zA j a b t)) j 9 (t % 3) (((((v_Sp_scheduleV_L46 zA j a b t)) j 8 t) + (v_Ru_turnRightV (((v_Sp_scheduleV_L46 zA j a b t)) j 9 (t % 3)) (nI 8))) ^^^ (nI t))) j 8 t) (nI 3)) ^^^ (((((v_Sp_scheduleV_L46 zA j a b t)) j 8 t) + (v_Ru_turnRightV (((v_Sp_scheduleV_L46 zA j a b t)) j 9 (t % 3)) (nI 8))) ^^^ (nI t))) := rfl
noncomputable def v_Sp_scheduleV_zA (zA : Nat → Nat → Nat → Int32) (j : Nat) (a : Int64) (b : Int64) : Nat → Nat → Nat → Int32 := (v_Sp_scheduleV_L46 zA j a b 26)
abbrev ws_Sp_scheduleV : List Cond := Cond.code y_Sp_schedule b_Sp_schedule 7 none :: aw_G
abbrev rm_Sp_scheduleV : Room := { frames := 2, cells := 0, slots := 0, locals := 47 }
set_option maxHeartbeats 4000000 in
set_option maxRecDepth 100000 in
theorem k_Sp_scheduleV (l : Launch) (D : va_G) (g : Nat → ClassId) (ad : Nat → Nat) (N0 : Nat) (zG : Nat → Nat × Nat) (zO : Nat → Nat) (zX : Nat → Nat → Int64) (zY : Nat → Nat → Int32) (zA : Nat → Nat → Nat → Int32) (zB : Nat → Int32) (zM : Nat → Nat × Nat) (zI : Nat → Nat → Int32) (zL : Nat → Nat → Int64) (zK : Int32) (zN : Nat) (zF : Int32) (zQ : Int64) (j : Nat) (a : Int64) (b : Int64) (hj : j < 4) : Met l y_Sp_schedule ws_Sp_scheduleV rm_Sp_scheduleV (va_Pc ([.ref (aw_c ad j 7), .long a, .long b] : List Value) (ag_B D g N0 (az_Sh g ad zG zO zX zY zA zB zM zI zL zK zN zF zQ))) (va_Qv (fun (_ : Unit) => True) (fun (_ : Unit) t => ag_H D N0 (az_Sh g ad zG zO zX zY (v_Sp_scheduleV_zA zA j a b) zB zM zI zL zK zN zF zQ) t.heap) (aw_Z N0)) 0 0 (aw_Z N0) := by
  refine Met.ofW (cc := b_Sp_schedule) (maxL := 7) (ret := none) (by decide) rfl ?_
  intro p e s m args below meth c s₁ B hml hv
  obtain ⟨rfl, ⟨L, hP, hD, hSh⟩, hU⟩ := hv
  have hx := B.exec
  have hb := B.bytes
  have hr := B.returns
  have hG : ∀ w ∈ aw_G, w.before _ s = true := fun w h => atoms_spec (ws := ws_Sp_scheduleV) B.pre w (List.mem_cons_of_mem _ h)
  have hown : s.vm.findClass "RuleCiphers$Speck" = some m.cls := findClass_of_methodNamed B.named
  have hlocks := B.notSynchronized
  have hE := hU.1
  have hK := hE.1
  have hN := hE.2.1
  have hS : va_S (aw_Z N0) s.heap s.heap [] := va_S.rf
  have hl := lv_entry ([.ref (aw_c ad j 7), .long a, .long b] : List Value) (n := 7) (Nat.le_of_ble_eq_true rfl)
  rw [lg_entry_eq]
  generalize (lg_sl ([.ref (aw_c ad j 7), .long a, .long b] : List Value) ++ List.replicate (7 - (lg_sl ([.ref (aw_c ad j 7), .long a, .long b] : List Value)).length) Slot.unset).toArray = ls at hl ⊢
  have hl : lv_has ls 7 [(0, .ref (aw_c ad j 7)), (1, .long a), (3, .long b)] := hl
  refine lv_iconst (v := nI 0) hx hb d_Sp_schedule_0 (by decide +kernel) ?_
  refine lv_istore hx hb d_Sp_schedule_1 hl (by decide) rfl (fun ls hl => ?_)
  have hl : lv_has ls 7 [(5, .int (nI 0)), (0, .ref (aw_c ad j 7)), (1, .long a), (3, .long b)] := hl
  have L3 : ∀ (d t : Nat) (H : Heap) (locs : List Loc) (L : va_W) (ls : Array Slot), t + d = 3 → va_P D aw_C L H → va_D (aw_Z N0) L → az_Sh g ad zG zO zX zY ((v_Sp_scheduleV_L3 zA j a b t)) zB zM zI zL zK zN zF zQ L → va_S (aw_Z N0) s.heap H locs → lv_has ls 7 [(0, .ref (aw_c ad j 7)), (1, .long a), (3, .long b), (5, .int (nI t))] → W p l e (headSpec ws_Sp_scheduleV rm_Sp_scheduleV).room s m ([.ref (aw_c ad j 7), .long a, .long b] : List Value).toArray below meth c H locs 0 0 (MQ below (va_Qv (fun (_ : Unit) => True) (fun (_ : Unit) t => ag_H D N0 (az_Sh g ad zG zO zX zY (v_Sp_scheduleV_zA zA j a b) zB zM zI zL zK zN zF zQ) t.heap) (aw_Z N0)) ([.ref (aw_c ad j 7), .long a, .long b] : List Value).toArray s 0 0 (aw_Z N0)) (F0 m 3 ls []) := by
    clear hl hP hD hSh hS
    intro d
    induction d with
    | zero =>
      intro t H locs L ls ht0 hP hD hSh hS hl
      have ht1 : t = 3 := by omega
      subst ht1
      refine lv_iload hx hb d_Sp_schedule_3 (lv_at hl 3 rfl) ?_
      refine lv_iconst (v := nI 3) hx hb d_Sp_schedule_5 (by decide +kernel) ?_
      refine lv_icmp_ge (tgt := 31) hx hb d_Sp_schedule_6 (by decide) (fun _ => ?_) (fun h => absurd (show nI 3 ≤ nI 3 from (nI_leI (by omega) (by omega)).mpr (by omega)) h)
      refine lv_aload_n hx hb d_Sp_schedule_31 rfl (lv_at hl 0 rfl) ?_
      have he1 := zr_C7 hSh hj
      refine va_get (C := R_Sp) (T := T_Sp) (N := 2) (v := .ref (aw_c ad j 8)) hx hb hG in_Sp hown hK hP (3 + 16 * j + 7) he1 rfl 0 (by decide) (hG _ gw_0_48) (fun x9 h9 => u_same (hG _ gw_0_49) x9 h9) rfl d_Sp_schedule_32 ?_
      clear he1
      refine lv_iconst (v := nI 0) hx hb d_Sp_schedule_35 (by decide +kernel) ?_
      refine lv_lload_n hx hb d_Sp_schedule_36 rfl (lv_at hl 1 rfl) ?_
      refine lv_lload_n hx hb d_Sp_schedule_37 rfl (lv_at hl 2 rfl) ?_
      refine lv_iconst (v := nI 3) hx hb d_Sp_schedule_38 (by decide +kernel) ?_
      refine aw_ci ((va_runSN (As := [.long a, .long b, .int (nI 3)]) (rest := [.int (nI 0), .ref (aw_c ad j 8)]) ⟨hx, hb, hml, hown, hG⟩ (k_Ru_keyQuarterV l a b (nI 3)) (aw_wSN 3 hG hN gw_4_49 nw_17 gw_0_1 gw_4_48 rfl rfl hd_Ru_keyQuarter ⟨Nat.le_of_ble_eq_true rfl, Nat.le_of_ble_eq_true rfl⟩) aw_p0 rfl rfl hl.1 rfl (lv_room (Nat.le_of_ble_eq_true rfl)) d_Sp_schedule_39 ⟨Nat.le_of_ble_eq_true rfl, Nat.le_of_ble_eq_true rfl⟩).run) (fun x2 ex2 => ?_)
      have ex2 := ex2.symm
      have he3 := zr_C8 hSh hj
      refine ag_ist hx hb hK hP hD hS (3 + 16 * j + 8) 0 he3 rfl (k := 0) (by omega) (by decide) d_Sp_schedule_42 (zw_A8w hSh hj 0 x2) ?_
      clear hP hD hSh hS he3
      intro H locs L hP hD hSh hS
      obtain ⟨zA4, ezA4⟩ : ∃ z : Nat → Nat → Nat → Int32, az_w ((v_Sp_scheduleV_L3 zA j a b 3)) j 8 0 x2 = z := ⟨_, rfl⟩
      rw [ezA4] at hSh
      refine lv_iconst (v := nI 0) hx hb d_Sp_schedule_43 (by decide +kernel) ?_
      refine lv_istore hx hb d_Sp_schedule_44 hl (by decide) rfl (fun ls hl => ?_)
      have hl : lv_has ls 7 [(5, .int (nI 0)), (0, .ref (aw_c ad j 7)), (1, .long a), (3, .long b)] := hl
      have L46 : ∀ (d t : Nat) (H : Heap) (locs : List Loc) (L : va_W) (ls : Array Slot), t + d = 26 → va_P D aw_C L H → va_D (aw_Z N0) L → az_Sh g ad zG zO zX zY ((v_Sp_scheduleV_L46 zA j a b t)) zB zM zI zL zK zN zF zQ L → va_S (aw_Z N0) s.heap H locs → lv_has ls 7 [(0, .ref (aw_c ad j 7)), (1, .long a), (3, .long b), (5, .int (nI t))] → W p l e (headSpec ws_Sp_scheduleV rm_Sp_scheduleV).room s m ([.ref (aw_c ad j 7), .long a, .long b] : List Value).toArray below meth c H locs 0 0 (MQ below (va_Qv (fun (_ : Unit) => True) (fun (_ : Unit) t => ag_H D N0 (az_Sh g ad zG zO zX zY (v_Sp_scheduleV_zA zA j a b) zB zM zI zL zK zN zF zQ) t.heap) (aw_Z N0)) ([.ref (aw_c ad j 7), .long a, .long b] : List Value).toArray s 0 0 (aw_Z N0)) (F0 m 46 ls []) := by
        clear hl hP hD hSh hS
        intro d
        induction d with
        | zero =>
          intro t H locs L ls ht0 hP hD hSh hS hl
          have ht1 : t = 26 := by omega
          subst ht1
          refine lv_iload hx hb d_Sp_schedule_46 (lv_at hl 3 rfl) ?_
          refine lv_bipush (v := nI 26) hx hb d_Sp_schedule_48 (by decide +kernel) ?_
          refine lv_icmp_ge (tgt := 120) hx hb d_Sp_schedule_50 (by decide) (fun _ => ?_) (fun h => absurd (show nI 26 ≤ nI 26 from (nI_leI (by omega) (by omega)).mpr (by omega)) h)
          have gzA : (v_Sp_scheduleV_L46 zA j a b 26) = v_Sp_scheduleV_zA zA j a b := by subst ezA4 ex2; rfl
          have hSh : az_Sh g ad zG zO zX zY (v_Sp_scheduleV_zA zA j a b) zB zM zI zL zK zN zF zQ L := by rw [← gzA]; exact hSh
          exact W.vret hx hb hr (fun t ht hW => ⟨⟨(), rfl, trivial, ag_Hr ht hP hD hSh⟩, hS.F ht⟩) hS.2.2 d_Sp_schedule_120
        | succ d ih =>
          intro t H locs L ls ht0 hP hD hSh hS hl
          refine lv_iload hx hb d_Sp_schedule_46 (lv_at hl 3 rfl) ?_
          refine lv_bipush (v := nI 26) hx hb d_Sp_schedule_48 (by decide +kernel) ?_
          refine lv_icmp_ge (tgt := 120) hx hb d_Sp_schedule_50 (by decide) (fun h => absurd h (show ¬ nI 26 ≤ nI t from fun h9 => absurd ((nI_leI (by omega) (by omega)).mp h9) (by omega))) (fun _ => ?_)
          refine lv_aload_n hx hb d_Sp_schedule_53 rfl (lv_at hl 0 rfl) ?_
          have he5 := zr_C7 hSh hj
          refine va_get (C := R_Sp) (T := T_Sp) (N := 2) (v := .ref (aw_c ad j 8)) hx hb hG in_Sp hown hK hP (3 + 16 * j + 7) he5 rfl 0 (by decide) (hG _ gw_0_48) (fun x9 h9 => u_same (hG _ gw_0_49) x9 h9) rfl d_Sp_schedule_54 ?_
          clear he5
          refine lv_iload hx hb d_Sp_schedule_57 (lv_at hl 3 rfl) ?_
          have he6 := zr_C8 hSh hj
          refine aw_ild hx hb hK hP (3 + 16 * j + 8) 0 he6 rfl (k := t) (by omega) (by decide) d_Sp_schedule_59 ?_
          clear he6
          refine ag_topi (fun x7 ex7 => ?_)
          refine lv_aload_n hx hb d_Sp_schedule_60 rfl (lv_at hl 0 rfl) ?_
          have he8 := zr_C7 hSh hj
          refine va_get (C := R_Sp) (T := T_Sp) (N := 2) (v := .ref (aw_c ad j 9)) hx hb hG in_Sp hown hK hP (3 + 16 * j + 7) he8 rfl 1 (by decide) (hG _ gw_1_12) (fun _ h => h) rfl d_Sp_schedule_61 ?_
          clear he8
          refine lv_iload hx hb d_Sp_schedule_64 (lv_at hl 3 rfl) ?_
          refine lv_iconst (v := nI 3) hx hb d_Sp_schedule_66 (by decide +kernel) ?_
          refine lv_irem hx hb d_Sp_schedule_67 (by decide +kernel) ?_
          refine aw_ti (pk_rem (a := t) (d := 3) (by omega) (by omega) (by omega)) ?_
          have he9 := zr_C9 hSh hj
          refine aw_ild hx hb hK hP (3 + 16 * j + 9) 0 he9 rfl (k := (t % 3)) (by omega) (by decide) d_Sp_schedule_68 ?_
          clear he9
          refine ag_topi (fun x10 ex10 => ?_)
          refine lv_bipush (v := nI 8) hx hb d_Sp_schedule_69 (by decide +kernel) ?_
          refine aw_ci ((va_runSN (As := [.int x10, .int (nI 8)]) (rest := [.int x7]) ⟨hx, hb, hml, hown, hG⟩ (k_Ru_turnRightV l x10 (nI 8)) (aw_wSN 2 hG hN gw_5_10 nw_18 gw_0_1 gw_5_9 rfl rfl hd_Ru_turnRight ⟨Nat.le_of_ble_eq_true rfl, Nat.le_of_ble_eq_true rfl⟩) aw_p0 rfl rfl hl.1 rfl (lv_room (Nat.le_of_ble_eq_true rfl)) d_Sp_schedule_71 ⟨Nat.le_of_ble_eq_true rfl, Nat.le_of_ble_eq_true rfl⟩).run) (fun x11 ex11 => ?_)
          have ex11 := ex11.symm
          refine lv_iadd hx hb d_Sp_schedule_74 ?_
          refine ag_topi (fun x12 ex12 => ?_)
          refine lv_iload hx hb d_Sp_schedule_75 (lv_at hl 3 rfl) ?_
          refine lv_ixor hx hb d_Sp_schedule_77 ?_
          refine ag_topi (fun x13 ex13 => ?_)
          refine lv_istore hx hb d_Sp_schedule_78 hl (by decide) rfl (fun ls hl => ?_)
          have hl : lv_has ls 7 [(6, .int x13), (0, .ref (aw_c ad j 7)), (1, .long a), (3, .long b), (5, .int (nI t))] := hl
          refine lv_aload_n hx hb d_Sp_schedule_80 rfl (lv_at hl 1 rfl) ?_
          have he14 := zr_C7 hSh hj
          refine va_get (C := R_Sp) (T := T_Sp) (N := 2) (v := .ref (aw_c ad j 9)) hx hb hG in_Sp hown hK hP (3 + 16 * j + 7) he14 rfl 1 (by decide) (hG _ gw_1_12) (fun _ h => h) rfl d_Sp_schedule_81 ?_
          clear he14
          refine lv_iload hx hb d_Sp_schedule_84 (lv_at hl 4 rfl) ?_
          refine lv_iconst (v := nI 3) hx hb d_Sp_schedule_86 (by decide +kernel) ?_
          refine lv_irem hx hb d_Sp_schedule_87 (by decide +kernel) ?_
          refine aw_ti (pk_rem (a := t) (d := 3) (by omega) (by omega) (by omega)) ?_
          refine lv_iload hx hb d_Sp_schedule_88 (lv_at hl 0 rfl) ?_
          have he15 := zr_C9 hSh hj
          refine ag_ist hx hb hK hP hD hS (3 + 16 * j + 9) 0 he15 rfl (k := (t % 3)) (by omega) (by decide) d_Sp_schedule_90 (zw_A9w hSh hj (t % 3) x13) ?_
          clear hP hD hSh hS he15
          intro H locs L hP hD hSh hS
          obtain ⟨zA16, ezA16⟩ : ∃ z : Nat → Nat → Nat → Int32, az_w ((v_Sp_scheduleV_L46 zA j a b t)) j 9 (t % 3) x13 = z := ⟨_, rfl⟩
          rw [ezA16] at hSh
          refine lv_aload_n hx hb d_Sp_schedule_91 rfl (lv_at hl 1 rfl) ?_
          have he17 := zr_C7 hSh hj
          refine va_get (C := R_Sp) (T := T_Sp) (N := 2) (v := .ref (aw_c ad j 8)) hx hb hG in_Sp hown hK hP (3 + 16 * j + 7) he17 rfl 0 (by decide) (hG _ gw_0_48) (fun x9 h9 => u_same (hG _ gw_0_49) x9 h9) rfl d_Sp_schedule_92 ?_
          clear he17
          refine lv_iload hx hb d_Sp_schedule_95 (lv_at hl 4 rfl) ?_
          refine lv_iconst (v := nI 1) hx hb d_Sp_schedule_97 (by decide +kernel) ?_
          refine lv_iadd hx hb d_Sp_schedule_98 ?_
          refine aw_ti (nI_add t 1) ?_
          refine lv_aload_n hx hb d_Sp_schedule_99 rfl (lv_at hl 1 rfl) ?_
          have he18 := zr_C7 hSh hj
          refine va_get (C := R_Sp) (T := T_Sp) (N := 2) (v := .ref (aw_c ad j 8)) hx hb hG in_Sp hown hK hP (3 + 16 * j + 7) he18 rfl 0 (by decide) (hG _ gw_0_48) (fun x9 h9 => u_same (hG _ gw_0_49) x9 h9) rfl d_Sp_schedule_100 ?_
          clear he18
          refine lv_iload hx hb d_Sp_schedule_103 (lv_at hl 4 rfl) ?_
          have he19 := zr_C8 hSh hj
          refine aw_ild hx hb hK hP (3 + 16 * j + 8) 0 he19 rfl (k := t) (by omega) (by decide) d_Sp_schedule_105 ?_
          clear he19
          refine ag_topi (fun x20 ex20 => ?_)
          refine lv_iconst (v := nI 3) hx hb d_Sp_schedule_106 (by decide +kernel) ?_
          refine aw_ci ((va_runSN (As := [.int x20, .int (nI 3)]) (rest := [.int (nI (t + 1)), .ref (aw_c ad j 8)]) ⟨hx, hb, hml, hown, hG⟩ (k_Ru_turnLeftV l x20 (nI 3)) (aw_wSN 2 hG hN gw_5_5 nw_19 gw_0_1 gw_5_4 rfl rfl hd_Ru_turnLeft ⟨Nat.le_of_ble_eq_true rfl, Nat.le_of_ble_eq_true rfl⟩) aw_p0 rfl rfl hl.1 rfl (lv_room (Nat.le_of_ble_eq_true rfl)) d_Sp_schedule_107 ⟨Nat.le_of_ble_eq_true rfl, Nat.le_of_ble_eq_true rfl⟩).run) (fun x21 ex21 => ?_)
          have ex21 := ex21.symm
          refine lv_iload hx hb d_Sp_schedule_110 (lv_at hl 0 rfl) ?_
          refine lv_ixor hx hb d_Sp_schedule_112 ?_
          refine ag_topi (fun x22 ex22 => ?_)
          have he23 := zr_C8 hSh hj
          refine ag_ist hx hb hK hP hD hS (3 + 16 * j + 8) 0 he23 rfl (k := (t + 1)) (by omega) (by decide) d_Sp_schedule_113 (zw_A8w hSh hj (t + 1) x22) ?_
          clear hP hD hSh hS he23
          intro H locs L hP hD hSh hS
          obtain ⟨zA24, ezA24⟩ : ∃ z : Nat → Nat → Nat → Int32, az_w zA16 j 8 (t + 1) x22 = z := ⟨_, rfl⟩
          rw [ezA24] at hSh
          refine lv_iinc (k := 4) (v := nI (t + 1)) hx hb d_Sp_schedule_114 hl rfl (aw_inc t 1 1 (by decide +kernel)) (by decide) rfl (fun ls hl => ?_)
          have hl : lv_has ls 7 [(5, .int (nI (t + 1))), (6, .int x13), (0, .ref (aw_c ad j 7)), (1, .long a), (3, .long b)] := hl
          refine lv_goto (tgt := 46) hx hb d_Sp_schedule_117 (by decide) ?_
          have hl := lv_sub hl (l' := [(0, .ref (aw_c ad j 7)), (1, .long a), (3, .long b), (5, .int (nI (t + 1)))]) [2, 3, 4, 0] rfl
          have g0 : zA24 = (v_Sp_scheduleV_L46 zA j a b (t + 1)) := by subst ezA24 ex22 ex21 ex20 ezA16 ex13 ex12 ex11 ex10 ex7 ezA4 ex2; (rw [v_Sp_scheduleV_L46_s]) <;> rfl
          have hSh : az_Sh g ad zG zO zX zY ((v_Sp_scheduleV_L46 zA j a b (t + 1))) zB zM zI zL zK zN zF zQ L := by rw [← g0]; exact hSh
          exact ih (t + 1) H locs L ls (by omega) hP hD hSh hS (by first | exact hl | simpa [Nat.add_assoc, Nat.mul_add, Nat.add_comm] using hl)
      have hl := lv_sub hl (l' := [(0, .ref (aw_c ad j 7)), (1, .long a), (3, .long b), (5, .int (nI 0))]) [1, 2, 3, 0] rfl
      have g0 : zA4 = (v_Sp_scheduleV_L46 zA j a b 0) := by subst ezA4 ex2; (rw [v_Sp_scheduleV_L46_z]) <;> rfl
      have hSh : az_Sh g ad zG zO zX zY ((v_Sp_scheduleV_L46 zA j a b 0)) zB zM zI zL zK zN zF zQ L := by rw [← g0]; exact hSh
      exact L46 26 0 _ _ L ls (by omega) hP hD hSh hS (by first | exact hl | simpa using hl)
    | succ d ih =>
      intro t H locs L ls ht0 hP hD hSh hS hl
      refine lv_iload hx hb d_Sp_schedule_3 (lv_at hl 3 rfl) ?_
      refine lv_iconst (v := nI 3) hx hb d_Sp_schedule_5 (by decide +kernel) ?_
      refine lv_icmp_ge (tgt := 31) hx hb d_Sp_schedule_6 (by decide) (fun h => absurd h (show ¬ nI 3 ≤ nI t from fun h9 => absurd ((nI_leI (by omega) (by omega)).mp h9) (by omega))) (fun _ => ?_)
      refine lv_aload_n hx hb d_Sp_schedule_9 rfl (lv_at hl 0 rfl) ?_
      have he25 := zr_C7 hSh hj
      refine va_get (C := R_Sp) (T := T_Sp) (N := 2) (v := .ref (aw_c ad j 9)) hx hb hG in_Sp hown hK hP (3 + 16 * j + 7) he25 rfl 1 (by decide) (hG _ gw_1_12) (fun _ h => h) rfl d_Sp_schedule_10 ?_
      clear he25
      refine lv_iconst (v := nI 2) hx hb d_Sp_schedule_13 (by decide +kernel) ?_
      refine lv_iload hx hb d_Sp_schedule_14 (lv_at hl 3 rfl) ?_
      refine lv_isub hx hb d_Sp_schedule_16 ?_
      refine aw_ti (pk_sub (a := 2) (b := t) (by omega)) ?_
      refine lv_lload_n hx hb d_Sp_schedule_17 rfl (lv_at hl 1 rfl) ?_
      refine lv_lload_n hx hb d_Sp_schedule_18 rfl (lv_at hl 2 rfl) ?_
      refine lv_iload hx hb d_Sp_schedule_19 (lv_at hl 3 rfl) ?_
      refine aw_ci ((va_runSN (As := [.long a, .long b, .int (nI t)]) (rest := [.int (nI (2 - t)), .ref (aw_c ad j 9)]) ⟨hx, hb, hml, hown, hG⟩ (k_Ru_keyQuarterV l a b (nI t)) (aw_wSN 3 hG hN gw_4_49 nw_17 gw_0_1 gw_4_48 rfl rfl hd_Ru_keyQuarter ⟨Nat.le_of_ble_eq_true rfl, Nat.le_of_ble_eq_true rfl⟩) aw_p0 rfl rfl hl.1 rfl (lv_room (Nat.le_of_ble_eq_true rfl)) d_Sp_schedule_21 ⟨Nat.le_of_ble_eq_true rfl, Nat.le_of_ble_eq_true rfl⟩).run) (fun x26 ex26 => ?_)
      have ex26 := ex26.symm
      have he27 := zr_C9 hSh hj
      refine ag_ist hx hb hK hP hD hS (3 + 16 * j + 9) 0 he27 rfl (k := (2 - t)) (by omega) (by decide) d_Sp_schedule_24 (zw_A9w hSh hj (2 - t) x26) ?_
      clear hP hD hSh hS he27
      intro H locs L hP hD hSh hS
      obtain ⟨zA28, ezA28⟩ : ∃ z : Nat → Nat → Nat → Int32, az_w ((v_Sp_scheduleV_L3 zA j a b t)) j 9 (2 - t) x26 = z := ⟨_, rfl⟩
      rw [ezA28] at hSh
      refine lv_iinc (k := 3) (v := nI (t + 1)) hx hb d_Sp_schedule_25 hl rfl (aw_inc t 1 1 (by decide +kernel)) (by decide) rfl (fun ls hl => ?_)
      have hl : lv_has ls 7 [(5, .int (nI (t + 1))), (0, .ref (aw_c ad j 7)), (1, .long a), (3, .long b)] := hl
      refine lv_goto (tgt := 3) hx hb d_Sp_schedule_28 (by decide) ?_
      have hl := lv_sub hl (l' := [(0, .ref (aw_c ad j 7)), (1, .long a), (3, .long b), (5, .int (nI (t + 1)))]) [1, 2, 3, 0] rfl
      have g0 : zA28 = (v_Sp_scheduleV_L3 zA j a b (t + 1)) := by subst ezA28 ex26; (rw [v_Sp_scheduleV_L3_s]) <;> rfl
      have hSh : az_Sh g ad zG zO zX zY ((v_Sp_scheduleV_L3 zA j a b (t + 1))) zB zM zI zL zK zN zF zQ L := by rw [← g0]; exact hSh
      exact ih (t + 1) H locs L ls (by omega) hP hD hSh hS (by first | exact hl | simpa [Nat.add_assoc, Nat.mul_add, Nat.add_comm] using hl)
  have hl := lv_sub hl (l' := [(0, .ref (aw_c ad j 7)), (1, .long a), (3, .long b), (5, .int (nI 0))]) [1, 2, 3, 0] rfl
  have g0 : zA = (v_Sp_scheduleV_L3 zA j a b 0) := by (rw [v_Sp_scheduleV_L3_z]) <;> rfl
  have hSh : az_Sh g ad zG zO zX zY ((v_Sp_scheduleV_L3 zA j a b 0)) zB zM zI zL zK zN zF zQ L := by rw [← g0]; exact hSh
  exact L3 3 0 _ _ L ls (by omega) hP hD hSh hS (by first | exact hl | simpa using hl)
noncomputable def v_Si_scheduleV_L3 (zA : Nat → Nat → Nat → Int32) (j : Nat) (a : Int64) (b : Int64) (t : Nat) : (Nat → Nat → Nat → Int32) := Nat.rec (motive := fun _ => (Nat → Nat → Nat → Int32)) (zA) (fun t s => az_w (s) j 11 (3 - t) (v_Ru_keyQuarterV a b (nI t))) t
theorem v_Si_scheduleV_L3_z (zA : Nat → Nat → Nat → Int32) (j : Nat) (a : Int64) (b : Int64) : v_Si_scheduleV_L3 zA j a b 0 = (zA) := rfl
theorem v_Si_scheduleV_L3_s (zA : Nat → Nat → Nat → Int32) (j : Nat) (a : Int64) (b : Int64) (t : Nat) : v_Si_scheduleV_L3 zA j a b (t + 1) = az_w ((v_Si_scheduleV_L3 zA j a b t)) j 11 (3 - t) (v_Ru_keyQuarterV a b (nI t)) := rfl
noncomputable def v_Si_scheduleV_L34 (zA : Nat → Nat → Nat → Int32) (j : Nat) (a : Int64) (b : Int64) (t : Nat) : (Nat → Nat → Nat → Int32) := Nat.rec (motive := fun _ => (Nat → Nat → Nat → Int32)) ((v_Si_scheduleV_L3 zA j a b 4)) (fun t s => az_w (s) j 11 (4 + t) ((((((s) j 11 ((4 + t) - 4)) ^^^ (-1)) ^^^ (((v_Ru_turnRightV ((s) j 11 ((4 + t) - 1)) (nI 3)) ^^^ ((s) j 11 ((4 + t) - 3))) ^^^ (v_Ru_turnRightV ((v_Ru_turnRightV ((s) j 11 ((4 + t) - 1)) (nI 3)) ^^^ ((s) j 11 ((4 + t) - 3))) (nI 1)))) ^^^ (v_Si_zBitV (nI ((4 + t) - 4)))) ^^^ (nI 3))) t
theorem v_Si_scheduleV_L34_z (zA : Nat → Nat → Nat → Int32) (j : Nat) (a : Int64) (b : Int64) : v_Si_scheduleV_L34 zA j a b 0 = ((v_Si_scheduleV_L3 zA j a b 4)) := rfl
theorem v_Si_scheduleV_L34_s (zA : Nat → Nat → Nat → Int32) (j : Nat) (a : Int64) (b : Int64) (t : Nat) : v_Si_scheduleV_L34 zA j a b (t + 1) = az_w ((v_Si_scheduleV_L34 zA j a b t)) j 11 (4 + t) (((((((v_Si_scheduleV_L34 zA j a b t)) j 11 ((4 + t) - 4)) ^^^ (-1)) ^^^ (((v_Ru_turnRightV (((v_Si_scheduleV_L34 zA j a b t)) j 11 ((4 + t) - 1)) (nI 3)) ^^^ (((v_Si_scheduleV_L34 zA j a b t)) j 11 ((4 + t) - 3))) ^^^ (v_Ru_turnRightV ((v_Ru_turnRightV (((v_Si_scheduleV_L34 zA j a b t)) j 11 ((4 + t) - 1)) (nI 3)) ^^^ (((v_Si_scheduleV_L34 zA j a b t)) j 11 ((4 + t) - 3))) (nI 1)))) ^^^ (v_Si_zBitV (nI ((4 + t) - 4)))) ^^^ (nI 3)) := rfl
noncomputable def v_Si_scheduleV_zA (zA : Nat → Nat → Nat → Int32) (j : Nat) (a : Int64) (b : Int64) : Nat → Nat → Nat → Int32 := (v_Si_scheduleV_L34 zA j a b 40)
abbrev ws_Si_scheduleV : List Cond := Cond.code y_Si_schedule b_Si_schedule 7 none :: aw_G
abbrev rm_Si_scheduleV : Room := { frames := 2, cells := 0, slots := 0, locals := 47 }
set_option maxHeartbeats 4000000 in
set_option maxRecDepth 100000 in
theorem k_Si_scheduleV (l : Launch) (D : va_G) (g : Nat → ClassId) (ad : Nat → Nat) (N0 : Nat) (zG : Nat → Nat × Nat) (zO : Nat → Nat) (zX : Nat → Nat → Int64) (zY : Nat → Nat → Int32) (zA : Nat → Nat → Nat → Int32) (zB : Nat → Int32) (zM : Nat → Nat × Nat) (zI : Nat → Nat → Int32) (zL : Nat → Nat → Int64) (zK : Int32) (zN : Nat) (zF : Int32) (zQ : Int64) (j : Nat) (a : Int64) (b : Int64) (hj : j < 4) : Met l y_Si_schedule ws_Si_scheduleV rm_Si_scheduleV (va_Pc ([.ref (aw_c ad j 10), .long a, .long b] : List Value) (ag_B D g N0 (az_Sh g ad zG zO zX zY zA zB zM zI zL zK zN zF zQ))) (va_Qv (fun (_ : Unit) => True) (fun (_ : Unit) t => ag_H D N0 (az_Sh g ad zG zO zX zY (v_Si_scheduleV_zA zA j a b) zB zM zI zL zK zN zF zQ) t.heap) (aw_Z N0)) 0 0 (aw_Z N0) := by
  refine Met.ofW (cc := b_Si_schedule) (maxL := 7) (ret := none) (by decide) rfl ?_
  intro p e s m args below meth c s₁ B hml hv
  obtain ⟨rfl, ⟨L, hP, hD, hSh⟩, hU⟩ := hv
  have hx := B.exec
  have hb := B.bytes
  have hr := B.returns
  have hG : ∀ w ∈ aw_G, w.before _ s = true := fun w h => atoms_spec (ws := ws_Si_scheduleV) B.pre w (List.mem_cons_of_mem _ h)
  have hown : s.vm.findClass "RuleCiphers$Simon" = some m.cls := findClass_of_methodNamed B.named
  have hlocks := B.notSynchronized
  have hE := hU.1
  have hK := hE.1
  have hN := hE.2.1
  have hS : va_S (aw_Z N0) s.heap s.heap [] := va_S.rf
  have hl := lv_entry ([.ref (aw_c ad j 10), .long a, .long b] : List Value) (n := 7) (Nat.le_of_ble_eq_true rfl)
  rw [lg_entry_eq]
  generalize (lg_sl ([.ref (aw_c ad j 10), .long a, .long b] : List Value) ++ List.replicate (7 - (lg_sl ([.ref (aw_c ad j 10), .long a, .long b] : List Value)).length) Slot.unset).toArray = ls at hl ⊢
  have hl : lv_has ls 7 [(0, .ref (aw_c ad j 10)), (1, .long a), (3, .long b)] := hl
  refine lv_iconst (v := nI 0) hx hb d_Si_schedule_0 (by decide +kernel) ?_
  refine lv_istore hx hb d_Si_schedule_1 hl (by decide) rfl (fun ls hl => ?_)
  have hl : lv_has ls 7 [(5, .int (nI 0)), (0, .ref (aw_c ad j 10)), (1, .long a), (3, .long b)] := hl
  have L3 : ∀ (d t : Nat) (H : Heap) (locs : List Loc) (L : va_W) (ls : Array Slot), t + d = 4 → va_P D aw_C L H → va_D (aw_Z N0) L → az_Sh g ad zG zO zX zY ((v_Si_scheduleV_L3 zA j a b t)) zB zM zI zL zK zN zF zQ L → va_S (aw_Z N0) s.heap H locs → lv_has ls 7 [(0, .ref (aw_c ad j 10)), (1, .long a), (3, .long b), (5, .int (nI t))] → W p l e (headSpec ws_Si_scheduleV rm_Si_scheduleV).room s m ([.ref (aw_c ad j 10), .long a, .long b] : List Value).toArray below meth c H locs 0 0 (MQ below (va_Qv (fun (_ : Unit) => True) (fun (_ : Unit) t => ag_H D N0 (az_Sh g ad zG zO zX zY (v_Si_scheduleV_zA zA j a b) zB zM zI zL zK zN zF zQ) t.heap) (aw_Z N0)) ([.ref (aw_c ad j 10), .long a, .long b] : List Value).toArray s 0 0 (aw_Z N0)) (F0 m 3 ls []) := by
    clear hl hP hD hSh hS
    intro d
    induction d with
    | zero =>
      intro t H locs L ls ht0 hP hD hSh hS hl
      have ht1 : t = 4 := by omega
      subst ht1
      refine lv_iload hx hb d_Si_schedule_3 (lv_at hl 3 rfl) ?_
      refine lv_iconst (v := nI 4) hx hb d_Si_schedule_5 (by decide +kernel) ?_
      refine lv_icmp_ge (tgt := 31) hx hb d_Si_schedule_6 (by decide) (fun _ => ?_) (fun h => absurd (show nI 4 ≤ nI 4 from (nI_leI (by omega) (by omega)).mpr (by omega)) h)
      refine lv_iconst (v := nI 4) hx hb d_Si_schedule_31 (by decide +kernel) ?_
      refine lv_istore hx hb d_Si_schedule_32 hl (by decide) rfl (fun ls hl => ?_)
      have hl : lv_has ls 7 [(5, .int (nI 4)), (0, .ref (aw_c ad j 10)), (1, .long a), (3, .long b)] := hl
      have L34 : ∀ (d t : Nat) (H : Heap) (locs : List Loc) (L : va_W) (ls : Array Slot), t + d = 40 → va_P D aw_C L H → va_D (aw_Z N0) L → az_Sh g ad zG zO zX zY ((v_Si_scheduleV_L34 zA j a b t)) zB zM zI zL zK zN zF zQ L → va_S (aw_Z N0) s.heap H locs → lv_has ls 7 [(0, .ref (aw_c ad j 10)), (1, .long a), (3, .long b), (5, .int (nI (4 + t)))] → W p l e (headSpec ws_Si_scheduleV rm_Si_scheduleV).room s m ([.ref (aw_c ad j 10), .long a, .long b] : List Value).toArray below meth c H locs 0 0 (MQ below (va_Qv (fun (_ : Unit) => True) (fun (_ : Unit) t => ag_H D N0 (az_Sh g ad zG zO zX zY (v_Si_scheduleV_zA zA j a b) zB zM zI zL zK zN zF zQ) t.heap) (aw_Z N0)) ([.ref (aw_c ad j 10), .long a, .long b] : List Value).toArray s 0 0 (aw_Z N0)) (F0 m 34 ls []) := by
        clear hl hP hD hSh hS
        intro d
        induction d with
        | zero =>
          intro t H locs L ls ht0 hP hD hSh hS hl
          have ht1 : t = 40 := by omega
          subst ht1
          refine lv_iload hx hb d_Si_schedule_34 (lv_at hl 3 rfl) ?_
          refine lv_bipush (v := nI 44) hx hb d_Si_schedule_36 (by decide +kernel) ?_
          refine lv_icmp_ge (tgt := 114) hx hb d_Si_schedule_38 (by decide) (fun _ => ?_) (fun h => absurd (show nI 44 ≤ nI (4 + 40) from (nI_leI (by omega) (by omega)).mpr (by omega)) h)
          have gzA : (v_Si_scheduleV_L34 zA j a b 40) = v_Si_scheduleV_zA zA j a b := by rfl
          have hSh : az_Sh g ad zG zO zX zY (v_Si_scheduleV_zA zA j a b) zB zM zI zL zK zN zF zQ L := by rw [← gzA]; exact hSh
          exact W.vret hx hb hr (fun t ht hW => ⟨⟨(), rfl, trivial, ag_Hr ht hP hD hSh⟩, hS.F ht⟩) hS.2.2 d_Si_schedule_114
        | succ d ih =>
          intro t H locs L ls ht0 hP hD hSh hS hl
          refine lv_iload hx hb d_Si_schedule_34 (lv_at hl 3 rfl) ?_
          refine lv_bipush (v := nI 44) hx hb d_Si_schedule_36 (by decide +kernel) ?_
          refine lv_icmp_ge (tgt := 114) hx hb d_Si_schedule_38 (by decide) (fun h => absurd h (show ¬ nI 44 ≤ nI (4 + t) from fun h9 => absurd ((nI_leI (by omega) (by omega)).mp h9) (by omega))) (fun _ => ?_)
          refine lv_aload_n hx hb d_Si_schedule_41 rfl (lv_at hl 0 rfl) ?_
          have he1 := zr_C10 hSh hj
          refine va_get (C := R_Si) (T := T_Si) (N := 1) (v := .ref (aw_c ad j 11)) hx hb hG in_Si hown hK hP (3 + 16 * j + 10) he1 rfl 0 (by decide) (hG _ gw_0_42) (fun x9 h9 => u_same (hG _ gw_0_43) x9 h9) rfl d_Si_schedule_42 ?_
          clear he1
          refine lv_iload hx hb d_Si_schedule_45 (lv_at hl 3 rfl) ?_
          refine lv_iconst (v := nI 1) hx hb d_Si_schedule_47 (by decide +kernel) ?_
          refine lv_isub hx hb d_Si_schedule_48 ?_
          refine aw_ti (pk_sub (a := (4 + t)) (b := 1) (by omega)) ?_
          have he2 := zr_C11 hSh hj
          refine aw_ild hx hb hK hP (3 + 16 * j + 11) 0 he2 rfl (k := ((4 + t) - 1)) (by omega) (by decide) d_Si_schedule_49 ?_
          clear he2
          refine ag_topi (fun x3 ex3 => ?_)
          refine lv_iconst (v := nI 3) hx hb d_Si_schedule_50 (by decide +kernel) ?_
          refine aw_ci ((va_runSN (As := [.int x3, .int (nI 3)]) (rest := []) ⟨hx, hb, hml, hown, hG⟩ (k_Ru_turnRightV l x3 (nI 3)) (aw_wSN 2 hG hN gw_5_10 nw_16 gw_0_1 gw_5_9 rfl rfl hd_Ru_turnRight ⟨Nat.le_of_ble_eq_true rfl, Nat.le_of_ble_eq_true rfl⟩) aw_p0 rfl rfl hl.1 rfl (lv_room (Nat.le_of_ble_eq_true rfl)) d_Si_schedule_51 ⟨Nat.le_of_ble_eq_true rfl, Nat.le_of_ble_eq_true rfl⟩).run) (fun x4 ex4 => ?_)
          have ex4 := ex4.symm
          refine lv_aload_n hx hb d_Si_schedule_54 rfl (lv_at hl 0 rfl) ?_
          have he5 := zr_C10 hSh hj
          refine va_get (C := R_Si) (T := T_Si) (N := 1) (v := .ref (aw_c ad j 11)) hx hb hG in_Si hown hK hP (3 + 16 * j + 10) he5 rfl 0 (by decide) (hG _ gw_0_42) (fun x9 h9 => u_same (hG _ gw_0_43) x9 h9) rfl d_Si_schedule_55 ?_
          clear he5
          refine lv_iload hx hb d_Si_schedule_58 (lv_at hl 3 rfl) ?_
          refine lv_iconst (v := nI 3) hx hb d_Si_schedule_60 (by decide +kernel) ?_
          refine lv_isub hx hb d_Si_schedule_61 ?_
          refine aw_ti (pk_sub (a := (4 + t)) (b := 3) (by omega)) ?_
          have he6 := zr_C11 hSh hj
          refine aw_ild hx hb hK hP (3 + 16 * j + 11) 0 he6 rfl (k := ((4 + t) - 3)) (by omega) (by decide) d_Si_schedule_62 ?_
          clear he6
          refine ag_topi (fun x7 ex7 => ?_)
          refine lv_ixor hx hb d_Si_schedule_63 ?_
          refine ag_topi (fun x8 ex8 => ?_)
          refine lv_istore hx hb d_Si_schedule_64 hl (by decide) rfl (fun ls hl => ?_)
          have hl : lv_has ls 7 [(6, .int x8), (0, .ref (aw_c ad j 10)), (1, .long a), (3, .long b), (5, .int (nI (4 + t)))] := hl
          refine lv_iload hx hb d_Si_schedule_66 (lv_at hl 0 rfl) ?_
          refine lv_iload hx hb d_Si_schedule_68 (lv_at hl 0 rfl) ?_
          refine lv_iconst (v := nI 1) hx hb d_Si_schedule_70 (by decide +kernel) ?_
          refine aw_ci ((va_runSN (As := [.int x8, .int (nI 1)]) (rest := [.int x8]) ⟨hx, hb, hml, hown, hG⟩ (k_Ru_turnRightV l x8 (nI 1)) (aw_wSN 2 hG hN gw_5_10 nw_16 gw_0_1 gw_5_9 rfl rfl hd_Ru_turnRight ⟨Nat.le_of_ble_eq_true rfl, Nat.le_of_ble_eq_true rfl⟩) aw_p0 rfl rfl hl.1 rfl (lv_room (Nat.le_of_ble_eq_true rfl)) d_Si_schedule_71 ⟨Nat.le_of_ble_eq_true rfl, Nat.le_of_ble_eq_true rfl⟩).run) (fun x9 ex9 => ?_)
          have ex9 := ex9.symm
          refine lv_ixor hx hb d_Si_schedule_74 ?_
          refine ag_topi (fun x10 ex10 => ?_)
          refine lv_istore hx hb d_Si_schedule_75 hl (by decide) rfl (fun ls hl => ?_)
          have hl : lv_has ls 7 [(6, .int x10), (0, .ref (aw_c ad j 10)), (1, .long a), (3, .long b), (5, .int (nI (4 + t)))] := hl
          refine lv_aload_n hx hb d_Si_schedule_77 rfl (lv_at hl 1 rfl) ?_
          have he11 := zr_C10 hSh hj
          refine va_get (C := R_Si) (T := T_Si) (N := 1) (v := .ref (aw_c ad j 11)) hx hb hG in_Si hown hK hP (3 + 16 * j + 10) he11 rfl 0 (by decide) (hG _ gw_0_42) (fun x9 h9 => u_same (hG _ gw_0_43) x9 h9) rfl d_Si_schedule_78 ?_
          clear he11
          refine lv_iload hx hb d_Si_schedule_81 (lv_at hl 4 rfl) ?_
          refine lv_aload_n hx hb d_Si_schedule_83 rfl (lv_at hl 1 rfl) ?_
          have he12 := zr_C10 hSh hj
          refine va_get (C := R_Si) (T := T_Si) (N := 1) (v := .ref (aw_c ad j 11)) hx hb hG in_Si hown hK hP (3 + 16 * j + 10) he12 rfl 0 (by decide) (hG _ gw_0_42) (fun x9 h9 => u_same (hG _ gw_0_43) x9 h9) rfl d_Si_schedule_84 ?_
          clear he12
          refine lv_iload hx hb d_Si_schedule_87 (lv_at hl 4 rfl) ?_
          refine lv_iconst (v := nI 4) hx hb d_Si_schedule_89 (by decide +kernel) ?_
          refine lv_isub hx hb d_Si_schedule_90 ?_
          refine aw_ti (pk_sub (a := (4 + t)) (b := 4) (by omega)) ?_
          have he13 := zr_C11 hSh hj
          refine aw_ild hx hb hK hP (3 + 16 * j + 11) 0 he13 rfl (k := ((4 + t) - 4)) (by omega) (by decide) d_Si_schedule_91 ?_
          clear he13
          refine ag_topi (fun x14 ex14 => ?_)
          refine lv_iconst (v := (-1)) hx hb d_Si_schedule_92 (by decide +kernel) ?_
          refine lv_ixor hx hb d_Si_schedule_93 ?_
          refine ag_topi (fun x15 ex15 => ?_)
          refine lv_iload hx hb d_Si_schedule_94 (lv_at hl 0 rfl) ?_
          refine lv_ixor hx hb d_Si_schedule_96 ?_
          refine ag_topi (fun x16 ex16 => ?_)
          refine lv_iload hx hb d_Si_schedule_97 (lv_at hl 4 rfl) ?_
          refine lv_iconst (v := nI 4) hx hb d_Si_schedule_99 (by decide +kernel) ?_
          refine lv_isub hx hb d_Si_schedule_100 ?_
          refine aw_ti (pk_sub (a := (4 + t)) (b := 4) (by omega)) ?_
          refine aw_ci ((va_runS (As := [.int (nI ((4 + t) - 4))]) (rest := [.int x16, .int (nI (4 + t)), .ref (aw_c ad j 11)]) ⟨hx, hb, hml, hown, hG⟩ (k_Si_zBitV l (nI ((4 + t) - 4))) (aw_wS 1 hG gw_5_13 gw_5_11 gw_0_7 gw_5_12 rfl rfl hd_Si_zBit ⟨Nat.le_of_ble_eq_true rfl, Nat.le_of_ble_eq_true rfl⟩) aw_p0 rfl rfl hl.1 rfl (lv_room (Nat.le_of_ble_eq_true rfl)) d_Si_schedule_101 ⟨Nat.le_of_ble_eq_true rfl, Nat.le_of_ble_eq_true rfl⟩).run) (fun x17 ex17 => ?_)
          have ex17 := ex17.symm
          refine lv_ixor hx hb d_Si_schedule_104 ?_
          refine ag_topi (fun x18 ex18 => ?_)
          refine lv_iconst (v := nI 3) hx hb d_Si_schedule_105 (by decide +kernel) ?_
          refine lv_ixor hx hb d_Si_schedule_106 ?_
          refine ag_topi (fun x19 ex19 => ?_)
          have he20 := zr_C11 hSh hj
          refine ag_ist hx hb hK hP hD hS (3 + 16 * j + 11) 0 he20 rfl (k := (4 + t)) (by omega) (by decide) d_Si_schedule_107 (zw_A11w hSh hj (4 + t) x19) ?_
          clear hP hD hSh hS he20
          intro H locs L hP hD hSh hS
          obtain ⟨zA21, ezA21⟩ : ∃ z : Nat → Nat → Nat → Int32, az_w ((v_Si_scheduleV_L34 zA j a b t)) j 11 (4 + t) x19 = z := ⟨_, rfl⟩
          rw [ezA21] at hSh
          refine lv_iinc (k := 4) (v := nI (4 + t + 1)) hx hb d_Si_schedule_108 hl rfl (aw_inc (4 + t) 1 1 (by decide +kernel)) (by decide) rfl (fun ls hl => ?_)
          have hl : lv_has ls 7 [(5, .int (nI (4 + t + 1))), (6, .int x10), (0, .ref (aw_c ad j 10)), (1, .long a), (3, .long b)] := hl
          refine lv_goto (tgt := 34) hx hb d_Si_schedule_111 (by decide) ?_
          have hl := lv_sub hl (l' := [(0, .ref (aw_c ad j 10)), (1, .long a), (3, .long b), (5, .int (nI (4 + t + 1)))]) [2, 3, 4, 0] rfl
          have g0 : zA21 = (v_Si_scheduleV_L34 zA j a b (t + 1)) := by subst ezA21 ex19 ex18 ex17 ex16 ex15 ex14 ex10 ex9 ex8 ex7 ex4 ex3; (rw [v_Si_scheduleV_L34_s]) <;> rfl
          have hSh : az_Sh g ad zG zO zX zY ((v_Si_scheduleV_L34 zA j a b (t + 1))) zB zM zI zL zK zN zF zQ L := by rw [← g0]; exact hSh
          exact ih (t + 1) H locs L ls (by omega) hP hD hSh hS (by first | exact hl | simpa [Nat.add_assoc, Nat.mul_add, Nat.add_comm] using hl)
      have hl := lv_sub hl (l' := [(0, .ref (aw_c ad j 10)), (1, .long a), (3, .long b), (5, .int (nI 4))]) [1, 2, 3, 0] rfl
      have g0 : (v_Si_scheduleV_L3 zA j a b 4) = (v_Si_scheduleV_L34 zA j a b 0) := by (rw [v_Si_scheduleV_L34_z]) <;> rfl
      have hSh : az_Sh g ad zG zO zX zY ((v_Si_scheduleV_L34 zA j a b 0)) zB zM zI zL zK zN zF zQ L := by rw [← g0]; exact hSh
      exact L34 40 0 _ _ L ls (by omega) hP hD hSh hS (by first | exact hl | simpa using hl)
    | succ d ih =>
      intro t H locs L ls ht0 hP hD hSh hS hl
      refine lv_iload hx hb d_Si_schedule_3 (lv_at hl 3 rfl) ?_
      refine lv_iconst (v := nI 4) hx hb d_Si_schedule_5 (by decide +kernel) ?_
      refine lv_icmp_ge (tgt := 31) hx hb d_Si_schedule_6 (by decide) (fun h => absurd h (show ¬ nI 4 ≤ nI t from fun h9 => absurd ((nI_leI (by omega) (by omega)).mp h9) (by omega))) (fun _ => ?_)
      refine lv_aload_n hx hb d_Si_schedule_9 rfl (lv_at hl 0 rfl) ?_
      have he22 := zr_C10 hSh hj
      refine va_get (C := R_Si) (T := T_Si) (N := 1) (v := .ref (aw_c ad j 11)) hx hb hG in_Si hown hK hP (3 + 16 * j + 10) he22 rfl 0 (by decide) (hG _ gw_0_42) (fun x9 h9 => u_same (hG _ gw_0_43) x9 h9) rfl d_Si_schedule_10 ?_
      clear he22
      refine lv_iconst (v := nI 3) hx hb d_Si_schedule_13 (by decide +kernel) ?_
      refine lv_iload hx hb d_Si_schedule_14 (lv_at hl 3 rfl) ?_
      refine lv_isub hx hb d_Si_schedule_16 ?_
      refine aw_ti (pk_sub (a := 3) (b := t) (by omega)) ?_
      refine lv_lload_n hx hb d_Si_schedule_17 rfl (lv_at hl 1 rfl) ?_
      refine lv_lload_n hx hb d_Si_schedule_18 rfl (lv_at hl 2 rfl) ?_
      refine lv_iload hx hb d_Si_schedule_19 (lv_at hl 3 rfl) ?_
      refine aw_ci ((va_runSN (As := [.long a, .long b, .int (nI t)]) (rest := [.int (nI (3 - t)), .ref (aw_c ad j 11)]) ⟨hx, hb, hml, hown, hG⟩ (k_Ru_keyQuarterV l a b (nI t)) (aw_wSN 3 hG hN gw_4_49 nw_15 gw_0_1 gw_4_48 rfl rfl hd_Ru_keyQuarter ⟨Nat.le_of_ble_eq_true rfl, Nat.le_of_ble_eq_true rfl⟩) aw_p0 rfl rfl hl.1 rfl (lv_room (Nat.le_of_ble_eq_true rfl)) d_Si_schedule_21 ⟨Nat.le_of_ble_eq_true rfl, Nat.le_of_ble_eq_true rfl⟩).run) (fun x23 ex23 => ?_)
      have ex23 := ex23.symm
      have he24 := zr_C11 hSh hj
      refine ag_ist hx hb hK hP hD hS (3 + 16 * j + 11) 0 he24 rfl (k := (3 - t)) (by omega) (by decide) d_Si_schedule_24 (zw_A11w hSh hj (3 - t) x23) ?_
      clear hP hD hSh hS he24
      intro H locs L hP hD hSh hS
      obtain ⟨zA25, ezA25⟩ : ∃ z : Nat → Nat → Nat → Int32, az_w ((v_Si_scheduleV_L3 zA j a b t)) j 11 (3 - t) x23 = z := ⟨_, rfl⟩
      rw [ezA25] at hSh
      refine lv_iinc (k := 3) (v := nI (t + 1)) hx hb d_Si_schedule_25 hl rfl (aw_inc t 1 1 (by decide +kernel)) (by decide) rfl (fun ls hl => ?_)
      have hl : lv_has ls 7 [(5, .int (nI (t + 1))), (0, .ref (aw_c ad j 10)), (1, .long a), (3, .long b)] := hl
      refine lv_goto (tgt := 3) hx hb d_Si_schedule_28 (by decide) ?_
      have hl := lv_sub hl (l' := [(0, .ref (aw_c ad j 10)), (1, .long a), (3, .long b), (5, .int (nI (t + 1)))]) [1, 2, 3, 0] rfl
      have g0 : zA25 = (v_Si_scheduleV_L3 zA j a b (t + 1)) := by subst ezA25 ex23; (rw [v_Si_scheduleV_L3_s]) <;> rfl
      have hSh : az_Sh g ad zG zO zX zY ((v_Si_scheduleV_L3 zA j a b (t + 1))) zB zM zI zL zK zN zF zQ L := by rw [← g0]; exact hSh
      exact ih (t + 1) H locs L ls (by omega) hP hD hSh hS (by first | exact hl | simpa [Nat.add_assoc, Nat.mul_add, Nat.add_comm] using hl)
  have hl := lv_sub hl (l' := [(0, .ref (aw_c ad j 10)), (1, .long a), (3, .long b), (5, .int (nI 0))]) [1, 2, 3, 0] rfl
  have g0 : zA = (v_Si_scheduleV_L3 zA j a b 0) := by (rw [v_Si_scheduleV_L3_z]) <;> rfl
  have hSh : az_Sh g ad zG zO zX zY ((v_Si_scheduleV_L3 zA j a b 0)) zB zM zI zL zK zN zF zQ L := by rw [← g0]; exact hSh
  exact L3 4 0 _ _ L ls (by omega) hP hD hSh hS (by first | exact hl | simpa using hl)
noncomputable def v_Id_scheduleV_L9 (zA : Nat → Nat → Nat → Int32) (j : Nat) (a : Int64) (b : Int64) (t : Nat) : Int64 × Int64 × (Nat → Nat → Nat → Int32) := Nat.rec (motive := fun _ => Int64 × Int64 × (Nat → Nat → Nat → Int32)) (a, b, zA) (fun t s => (if (nI 4) ≤ (nI (t % 8)) then (if (nI (t % 8)) = (nI 7) then (((jL_shl (s.1) (nI 25)) ||| (jL_ushr (s.2.1) (nI 39))), ((jL_shl (s.2.1) (nI 25)) ||| (jL_ushr (s.1) (nI 39))), az_w (s.2.2) j 13 t (v_Id_quarterOfV (s.2.1) (nI ((t % 8) % 4)))) else (s.1, s.2.1, az_w (s.2.2) j 13 t (v_Id_quarterOfV (s.2.1) (nI ((t % 8) % 4))))) else (s.1, s.2.1, az_w (s.2.2) j 13 t (v_Id_quarterOfV (s.1) (nI ((t % 8) % 4)))))) t
theorem v_Id_scheduleV_L9_z (zA : Nat → Nat → Nat → Int32) (j : Nat) (a : Int64) (b : Int64) : v_Id_scheduleV_L9 zA j a b 0 = (a, b, zA) := rfl
theorem v_Id_scheduleV_L9_s (zA : Nat → Nat → Nat → Int32) (j : Nat) (a : Int64) (b : Int64) (t : Nat) : v_Id_scheduleV_L9 zA j a b (t + 1) = (if (nI 4) ≤ (nI (t % 8)) then (if (nI (t % 8)) = (nI 7) then (((jL_shl ((v_Id_scheduleV_L9 zA j a b t).1) (nI 25)) ||| (jL_ushr ((v_Id_scheduleV_L9 zA j a b t).2.1) (nI 39))), ((jL_shl ((v_Id_scheduleV_L9 zA j a b t).2.1) (nI 25)) ||| (jL_ushr ((v_Id_scheduleV_L9 zA j a b t).1) (nI 39))), az_w ((v_Id_scheduleV_L9 zA j a b t).2.2) j 13 t (v_Id_quarterOfV ((v_Id_scheduleV_L9 zA j a b t).2.1) (nI ((t % 8) % 4)))) else ((v_Id_scheduleV_L9 zA j a b t).1, (v_Id_scheduleV_L9 zA j a b t).2.1, az_w ((v_Id_scheduleV_L9 zA j a b t).2.2) j 13 t (v_Id_quarterOfV ((v_Id_scheduleV_L9 zA j a b t).2.1) (nI ((t % 8) % 4))))) else ((v_Id_scheduleV_L9 zA j a b t).1, (v_Id_scheduleV_L9 zA j a b t).2.1, az_w ((v_Id_scheduleV_L9 zA j a b t).2.2) j 13 t (v_Id_quarterOfV ((v_Id_scheduleV_L9 zA j a b t).1) (nI ((t % 8) % 4))))) := rfl
noncomputable def v_Id_scheduleV_L96 (zA : Nat → Nat → Nat → Int32) (j : Nat) (a : Int64) (b : Int64) (t : Nat) : (Nat → Nat → Nat → Int32) := Nat.rec (motive := fun _ => (Nat → Nat → Nat → Int32)) ((v_Id_scheduleV_L9 zA j a b 52).2.2) (fun t s => az_w (az_w (az_w (az_w (s) j 14 (6 * t) (v_Id_inverseV ((s) j 13 (6 * t)))) j 14 ((6 * t) + 1) ((-((az_w (s) j 14 (6 * t) (v_Id_inverseV ((s) j 13 (6 * t)))) j 13 ((6 * t) + 1))) &&& 65535)) j 14 ((6 * t) + 2) ((-((az_w (az_w (s) j 14 (6 * t) (v_Id_inverseV ((s) j 13 (6 * t)))) j 14 ((6 * t) + 1) ((-((az_w (s) j 14 (6 * t) (v_Id_inverseV ((s) j 13 (6 * t)))) j 13 ((6 * t) + 1))) &&& 65535)) j 13 ((6 * t) + 2))) &&& 65535)) j 14 ((6 * t) + 3) (v_Id_inverseV ((az_w (az_w (az_w (s) j 14 (6 * t) (v_Id_inverseV ((s) j 13 (6 * t)))) j 14 ((6 * t) + 1) ((-((az_w (s) j 14 (6 * t) (v_Id_inverseV ((s) j 13 (6 * t)))) j 13 ((6 * t) + 1))) &&& 65535)) j 14 ((6 * t) + 2) ((-((az_w (az_w (s) j 14 (6 * t) (v_Id_inverseV ((s) j 13 (6 * t)))) j 14 ((6 * t) + 1) ((-((az_w (s) j 14 (6 * t) (v_Id_inverseV ((s) j 13 (6 * t)))) j 13 ((6 * t) + 1))) &&& 65535)) j 13 ((6 * t) + 2))) &&& 65535)) j 13 ((6 * t) + 3)))) t
theorem v_Id_scheduleV_L96_z (zA : Nat → Nat → Nat → Int32) (j : Nat) (a : Int64) (b : Int64) : v_Id_scheduleV_L96 zA j a b 0 = ((v_Id_scheduleV_L9 zA j a b 52).2.2) := rfl
theorem v_Id_scheduleV_L96_s (zA : Nat → Nat → Nat → Int32) (j : Nat) (a : Int64) (b : Int64) (t : Nat) : v_Id_scheduleV_L96 zA j a b (t + 1) = az_w (az_w (az_w (az_w ((v_Id_scheduleV_L96 zA j a b t)) j 14 (6 * t) (v_Id_inverseV (((v_Id_scheduleV_L96 zA j a b t)) j 13 (6 * t)))) j 14 ((6 * t) + 1) ((-((az_w ((v_Id_scheduleV_L96 zA j a b t)) j 14 (6 * t) (v_Id_inverseV (((v_Id_scheduleV_L96 zA j a b t)) j 13 (6 * t)))) j 13 ((6 * t) + 1))) &&& 65535)) j 14 ((6 * t) + 2) ((-((az_w (az_w ((v_Id_scheduleV_L96 zA j a b t)) j 14 (6 * t) (v_Id_inverseV (((v_Id_scheduleV_L96 zA j a b t)) j 13 (6 * t)))) j 14 ((6 * t) + 1) ((-((az_w ((v_Id_scheduleV_L96 zA j a b t)) j 14 (6 * t) (v_Id_inverseV (((v_Id_scheduleV_L96 zA j a b t)) j 13 (6 * t)))) j 13 ((6 * t) + 1))) &&& 65535)) j 13 ((6 * t) + 2))) &&& 65535)) j 14 ((6 * t) + 3) (v_Id_inverseV ((az_w (az_w (az_w ((v_Id_scheduleV_L96 zA j a b t)) j 14 (6 * t) (v_Id_inverseV (((v_Id_scheduleV_L96 zA j a b t)) j 13 (6 * t)))) j 14 ((6 * t) + 1) ((-((az_w ((v_Id_scheduleV_L96 zA j a b t)) j 14 (6 * t) (v_Id_inverseV (((v_Id_scheduleV_L96 zA j a b t)) j 13 (6 * t)))) j 13 ((6 * t) + 1))) &&& 65535)) j 14 ((6 * t) + 2) ((-((az_w (az_w ((v_Id_scheduleV_L96 zA j a b t)) j 14 (6 * t) (v_Id_inverseV (((v_Id_scheduleV_L96 zA j a b t)) j 13 (6 * t)))) j 14 ((6 * t) + 1) ((-((az_w ((v_Id_scheduleV_L96 zA j a b t)) j 14 (6 * t) (v_Id_inverseV (((v_Id_scheduleV_L96 zA j a b t)) j 13 (6 * t)))) j 13 ((6 * t) + 1))) &&& 65535)) j 13 ((6 * t) + 2))) &&& 65535)) j 13 ((6 * t) + 3))) := rfl
noncomputable def v_Id_scheduleV_zA (zA : Nat → Nat → Nat → Int32) (j : Nat) (a : Int64) (b : Int64) : Nat → Nat → Nat → Int32 := (v_Id_scheduleV_L96 zA j a b 9)
abbrev ws_Id_scheduleV : List Cond := Cond.code y_Id_schedule b_Id_schedule 13 none :: aw_G
abbrev rm_Id_scheduleV : Room := { frames := 2, cells := 0, slots := 0, locals := 45 }
set_option maxHeartbeats 4000000 in
set_option maxRecDepth 100000 in
theorem k_Id_scheduleV (l : Launch) (D : va_G) (g : Nat → ClassId) (ad : Nat → Nat) (N0 : Nat) (zG : Nat → Nat × Nat) (zO : Nat → Nat) (zX : Nat → Nat → Int64) (zY : Nat → Nat → Int32) (zA : Nat → Nat → Nat → Int32) (zB : Nat → Int32) (zM : Nat → Nat × Nat) (zI : Nat → Nat → Int32) (zL : Nat → Nat → Int64) (zK : Int32) (zN : Nat) (zF : Int32) (zQ : Int64) (j : Nat) (a : Int64) (b : Int64) (hj : j < 4) : Met l y_Id_schedule ws_Id_scheduleV rm_Id_scheduleV (va_Pc ([.ref (aw_c ad j 12), .long a, .long b] : List Value) (ag_B D g N0 (az_Sh g ad zG zO zX zY zA zB zM zI zL zK zN zF zQ))) (va_Qv (fun (_ : Unit) => True) (fun (_ : Unit) t => ag_H D N0 (az_Sh g ad zG zO zX zY (v_Id_scheduleV_zA zA j a b) zB zM zI zL zK zN zF zQ) t.heap) (aw_Z N0)) 0 0 (aw_Z N0) := by
  refine Met.ofW (cc := b_Id_schedule) (maxL := 13) (ret := none) (by decide) rfl ?_
  intro p e s m args below meth c s₁ B hml hv
  obtain ⟨rfl, ⟨L, hP, hD, hSh⟩, hU⟩ := hv
  have hx := B.exec
  have hb := B.bytes
  have hr := B.returns
  have hG : ∀ w ∈ aw_G, w.before _ s = true := fun w h => atoms_spec (ws := ws_Id_scheduleV) B.pre w (List.mem_cons_of_mem _ h)
  have hown : s.vm.findClass "RuleCiphers$Idea" = some m.cls := findClass_of_methodNamed B.named
  have hlocks := B.notSynchronized
  have hE := hU.1
  have hK := hE.1
  have hN := hE.2.1
  have hS : va_S (aw_Z N0) s.heap s.heap [] := va_S.rf
  have hl := lv_entry ([.ref (aw_c ad j 12), .long a, .long b] : List Value) (n := 13) (Nat.le_of_ble_eq_true rfl)
  rw [lg_entry_eq]
  generalize (lg_sl ([.ref (aw_c ad j 12), .long a, .long b] : List Value) ++ List.replicate (13 - (lg_sl ([.ref (aw_c ad j 12), .long a, .long b] : List Value)).length) Slot.unset).toArray = ls at hl ⊢
  have hl : lv_has ls 13 [(0, .ref (aw_c ad j 12)), (1, .long a), (3, .long b)] := hl
  refine lv_lload_n hx hb d_Id_schedule_0 rfl (lv_at hl 1 rfl) ?_
  refine lv_lstore hx hb d_Id_schedule_1 hl (by decide) rfl (fun ls hl => ?_)
  have hl : lv_has ls 13 [(5, .long a), (0, .ref (aw_c ad j 12)), (1, .long a), (3, .long b)] := hl
  refine lv_lload_n hx hb d_Id_schedule_3 rfl (lv_at hl 3 rfl) ?_
  refine lv_lstore hx hb d_Id_schedule_4 hl (by decide) rfl (fun ls hl => ?_)
  have hl : lv_has ls 13 [(7, .long b), (5, .long a), (0, .ref (aw_c ad j 12)), (1, .long a), (3, .long b)] := hl
  refine lv_iconst (v := nI 0) hx hb d_Id_schedule_6 (by decide +kernel) ?_
  refine lv_istore hx hb d_Id_schedule_7 hl (by decide) rfl (fun ls hl => ?_)
  have hl : lv_has ls 13 [(9, .int (nI 0)), (7, .long b), (5, .long a), (0, .ref (aw_c ad j 12)), (1, .long a), (3, .long b)] := hl
  have L9 : ∀ (d t : Nat) (H : Heap) (locs : List Loc) (L : va_W) (ls : Array Slot), t + d = 52 → va_P D aw_C L H → va_D (aw_Z N0) L → az_Sh g ad zG zO zX zY ((v_Id_scheduleV_L9 zA j a b t).2.2) zB zM zI zL zK zN zF zQ L → va_S (aw_Z N0) s.heap H locs → lv_has ls 13 [(0, .ref (aw_c ad j 12)), (1, .long a), (3, .long b), (5, .long ((v_Id_scheduleV_L9 zA j a b t).1)), (7, .long ((v_Id_scheduleV_L9 zA j a b t).2.1)), (9, .int (nI t))] → W p l e (headSpec ws_Id_scheduleV rm_Id_scheduleV).room s m ([.ref (aw_c ad j 12), .long a, .long b] : List Value).toArray below meth c H locs 0 0 (MQ below (va_Qv (fun (_ : Unit) => True) (fun (_ : Unit) t => ag_H D N0 (az_Sh g ad zG zO zX zY (v_Id_scheduleV_zA zA j a b) zB zM zI zL zK zN zF zQ) t.heap) (aw_Z N0)) ([.ref (aw_c ad j 12), .long a, .long b] : List Value).toArray s 0 0 (aw_Z N0)) (F0 m 9 ls []) := by
    clear hl hP hD hSh hS
    intro d
    induction d with
    | zero =>
      intro t H locs L ls ht0 hP hD hSh hS hl
      have ht1 : t = 52 := by omega
      subst ht1
      refine lv_iload hx hb d_Id_schedule_9 (lv_at hl 5 rfl) ?_
      refine lv_bipush (v := nI 52) hx hb d_Id_schedule_11 (by decide +kernel) ?_
      refine lv_icmp_ge (tgt := 93) hx hb d_Id_schedule_13 (by decide) (fun _ => ?_) (fun h => absurd (show nI 52 ≤ nI 52 from (nI_leI (by omega) (by omega)).mpr (by omega)) h)
      refine lv_iconst (v := nI 0) hx hb d_Id_schedule_93 (by decide +kernel) ?_
      refine lv_istore hx hb d_Id_schedule_94 hl (by decide) rfl (fun ls hl => ?_)
      have hl : lv_has ls 13 [(9, .int (nI 0)), (0, .ref (aw_c ad j 12)), (1, .long a), (3, .long b), (5, .long ((v_Id_scheduleV_L9 zA j a b 52).1)), (7, .long ((v_Id_scheduleV_L9 zA j a b 52).2.1))] := hl
      have L96 : ∀ (d t : Nat) (H : Heap) (locs : List Loc) (L : va_W) (ls : Array Slot), t + d = 9 → va_P D aw_C L H → va_D (aw_Z N0) L → az_Sh g ad zG zO zX zY ((v_Id_scheduleV_L96 zA j a b t)) zB zM zI zL zK zN zF zQ L → va_S (aw_Z N0) s.heap H locs → lv_has ls 13 [(0, .ref (aw_c ad j 12)), (1, .long a), (3, .long b), (5, .long ((v_Id_scheduleV_L9 zA j a b 52).1)), (7, .long ((v_Id_scheduleV_L9 zA j a b 52).2.1)), (9, .int (nI (6 * t)))] → W p l e (headSpec ws_Id_scheduleV rm_Id_scheduleV).room s m ([.ref (aw_c ad j 12), .long a, .long b] : List Value).toArray below meth c H locs 0 0 (MQ below (va_Qv (fun (_ : Unit) => True) (fun (_ : Unit) t => ag_H D N0 (az_Sh g ad zG zO zX zY (v_Id_scheduleV_zA zA j a b) zB zM zI zL zK zN zF zQ) t.heap) (aw_Z N0)) ([.ref (aw_c ad j 12), .long a, .long b] : List Value).toArray s 0 0 (aw_Z N0)) (F0 m 96 ls []) := by
        clear hl hP hD hSh hS
        intro d
        induction d with
        | zero =>
          intro t H locs L ls ht0 hP hD hSh hS hl
          have ht1 : t = 9 := by omega
          subst ht1
          refine lv_iload hx hb d_Id_schedule_96 (lv_at hl 5 rfl) ?_
          refine lv_bipush (v := nI 48) hx hb d_Id_schedule_98 (by decide +kernel) ?_
          refine lv_icmp_gt (tgt := 191) hx hb d_Id_schedule_100 (by decide) (fun _ => ?_) (fun h => absurd (show nI 48 < nI (6 * 9) from (nI_ltI (by omega) (by omega)).mpr (by omega)) h)
          have gzA : (v_Id_scheduleV_L96 zA j a b 9) = v_Id_scheduleV_zA zA j a b := by rfl
          have hSh : az_Sh g ad zG zO zX zY (v_Id_scheduleV_zA zA j a b) zB zM zI zL zK zN zF zQ L := by rw [← gzA]; exact hSh
          exact W.vret hx hb hr (fun t ht hW => ⟨⟨(), rfl, trivial, ag_Hr ht hP hD hSh⟩, hS.F ht⟩) hS.2.2 d_Id_schedule_191
        | succ d ih =>
          intro t H locs L ls ht0 hP hD hSh hS hl
          refine lv_iload hx hb d_Id_schedule_96 (lv_at hl 5 rfl) ?_
          refine lv_bipush (v := nI 48) hx hb d_Id_schedule_98 (by decide +kernel) ?_
          refine lv_icmp_gt (tgt := 191) hx hb d_Id_schedule_100 (by decide) (fun h => absurd h (show ¬ nI 48 < nI (6 * t) from fun h9 => absurd ((nI_ltI (by omega) (by omega)).mp h9) (by omega))) (fun _ => ?_)
          refine lv_aload_n hx hb d_Id_schedule_103 rfl (lv_at hl 0 rfl) ?_
          have he1 := zr_C12 hSh hj
          refine va_get (C := R_Id) (T := T_Id) (N := 2) (v := .ref (aw_c ad j 14)) hx hb hG in_Id hown hK hP (3 + 16 * j + 12) he1 rfl 1 (by decide) (hG _ gw_1_31) (fun _ h => h) rfl d_Id_schedule_104 ?_
          clear he1
          refine lv_iload hx hb d_Id_schedule_107 (lv_at hl 5 rfl) ?_
          refine lv_aload_n hx hb d_Id_schedule_109 rfl (lv_at hl 0 rfl) ?_
          have he2 := zr_C12 hSh hj
          refine va_get (C := R_Id) (T := T_Id) (N := 2) (v := .ref (aw_c ad j 13)) hx hb hG in_Id hown hK hP (3 + 16 * j + 12) he2 rfl 0 (by decide) (hG _ gw_0_46) (fun x9 h9 => u_same (hG _ gw_0_47) x9 h9) rfl d_Id_schedule_110 ?_
          clear he2
          refine lv_iload hx hb d_Id_schedule_113 (lv_at hl 5 rfl) ?_
          have he3 := zr_C13 hSh hj
          refine aw_ild hx hb hK hP (3 + 16 * j + 13) 0 he3 rfl (k := (6 * t)) (by omega) (by decide) d_Id_schedule_115 ?_
          clear he3
          refine ag_topi (fun x4 ex4 => ?_)
          refine aw_ci ((va_runS (As := [.int x4]) (rest := [.int (nI (6 * t)), .ref (aw_c ad j 14)]) ⟨hx, hb, hml, hown, hG⟩ (k_Id_inverseV l x4) (aw_wS 1 hG gw_4_39 gw_4_37 gw_0_8 gw_4_38 rfl rfl hd_Id_inverse ⟨Nat.le_of_ble_eq_true rfl, Nat.le_of_ble_eq_true rfl⟩) aw_p0 rfl rfl hl.1 rfl (lv_room (Nat.le_of_ble_eq_true rfl)) d_Id_schedule_116 ⟨Nat.le_of_ble_eq_true rfl, Nat.le_of_ble_eq_true rfl⟩).run) (fun x5 ex5 => ?_)
          have ex5 := ex5.symm
          have he6 := zr_C14 hSh hj
          refine ag_ist hx hb hK hP hD hS (3 + 16 * j + 14) 0 he6 rfl (k := (6 * t)) (by omega) (by decide) d_Id_schedule_119 (zw_A14w hSh hj (6 * t) x5) ?_
          clear hP hD hSh hS he6
          intro H locs L hP hD hSh hS
          obtain ⟨zA7, ezA7⟩ : ∃ z : Nat → Nat → Nat → Int32, az_w ((v_Id_scheduleV_L96 zA j a b t)) j 14 (6 * t) x5 = z := ⟨_, rfl⟩
          rw [ezA7] at hSh
          refine lv_aload_n hx hb d_Id_schedule_120 rfl (lv_at hl 0 rfl) ?_
          have he8 := zr_C12 hSh hj
          refine va_get (C := R_Id) (T := T_Id) (N := 2) (v := .ref (aw_c ad j 14)) hx hb hG in_Id hown hK hP (3 + 16 * j + 12) he8 rfl 1 (by decide) (hG _ gw_1_31) (fun _ h => h) rfl d_Id_schedule_121 ?_
          clear he8
          refine lv_iload hx hb d_Id_schedule_124 (lv_at hl 5 rfl) ?_
          refine lv_iconst (v := nI 1) hx hb d_Id_schedule_126 (by decide +kernel) ?_
          refine lv_iadd hx hb d_Id_schedule_127 ?_
          refine aw_ti (nI_add (6 * t) 1) ?_
          refine lv_aload_n hx hb d_Id_schedule_128 rfl (lv_at hl 0 rfl) ?_
          have he9 := zr_C12 hSh hj
          refine va_get (C := R_Id) (T := T_Id) (N := 2) (v := .ref (aw_c ad j 13)) hx hb hG in_Id hown hK hP (3 + 16 * j + 12) he9 rfl 0 (by decide) (hG _ gw_0_46) (fun x9 h9 => u_same (hG _ gw_0_47) x9 h9) rfl d_Id_schedule_129 ?_
          clear he9
          refine lv_iload hx hb d_Id_schedule_132 (lv_at hl 5 rfl) ?_
          refine lv_iconst (v := nI 1) hx hb d_Id_schedule_134 (by decide +kernel) ?_
          refine lv_iadd hx hb d_Id_schedule_135 ?_
          refine aw_ti (nI_add (6 * t) 1) ?_
          have he10 := zr_C13 hSh hj
          refine aw_ild hx hb hK hP (3 + 16 * j + 13) 0 he10 rfl (k := ((6 * t) + 1)) (by omega) (by decide) d_Id_schedule_136 ?_
          clear he10
          refine ag_topi (fun x11 ex11 => ?_)
          refine lv_ineg hx hb d_Id_schedule_137 ?_
          refine ag_topi (fun x12 ex12 => ?_)
          refine lv_ldc (v := 65535) hx hb hown (hG _ gw_4_36) d_Id_schedule_138 ?_
          refine lv_iand hx hb d_Id_schedule_140 ?_
          refine ag_topi (fun x13 ex13 => ?_)
          have he14 := zr_C14 hSh hj
          refine ag_ist hx hb hK hP hD hS (3 + 16 * j + 14) 0 he14 rfl (k := ((6 * t) + 1)) (by omega) (by decide) d_Id_schedule_141 (zw_A14w hSh hj ((6 * t) + 1) x13) ?_
          clear hP hD hSh hS he14
          intro H locs L hP hD hSh hS
          obtain ⟨zA15, ezA15⟩ : ∃ z : Nat → Nat → Nat → Int32, az_w zA7 j 14 ((6 * t) + 1) x13 = z := ⟨_, rfl⟩
          rw [ezA15] at hSh
          refine lv_aload_n hx hb d_Id_schedule_142 rfl (lv_at hl 0 rfl) ?_
          have he16 := zr_C12 hSh hj
          refine va_get (C := R_Id) (T := T_Id) (N := 2) (v := .ref (aw_c ad j 14)) hx hb hG in_Id hown hK hP (3 + 16 * j + 12) he16 rfl 1 (by decide) (hG _ gw_1_31) (fun _ h => h) rfl d_Id_schedule_143 ?_
          clear he16
          refine lv_iload hx hb d_Id_schedule_146 (lv_at hl 5 rfl) ?_
          refine lv_iconst (v := nI 2) hx hb d_Id_schedule_148 (by decide +kernel) ?_
          refine lv_iadd hx hb d_Id_schedule_149 ?_
          refine aw_ti (nI_add (6 * t) 2) ?_
          refine lv_aload_n hx hb d_Id_schedule_150 rfl (lv_at hl 0 rfl) ?_
          have he17 := zr_C12 hSh hj
          refine va_get (C := R_Id) (T := T_Id) (N := 2) (v := .ref (aw_c ad j 13)) hx hb hG in_Id hown hK hP (3 + 16 * j + 12) he17 rfl 0 (by decide) (hG _ gw_0_46) (fun x9 h9 => u_same (hG _ gw_0_47) x9 h9) rfl d_Id_schedule_151 ?_
          clear he17
          refine lv_iload hx hb d_Id_schedule_154 (lv_at hl 5 rfl) ?_
          refine lv_iconst (v := nI 2) hx hb d_Id_schedule_156 (by decide +kernel) ?_
          refine lv_iadd hx hb d_Id_schedule_157 ?_
          refine aw_ti (nI_add (6 * t) 2) ?_
          have he18 := zr_C13 hSh hj
          refine aw_ild hx hb hK hP (3 + 16 * j + 13) 0 he18 rfl (k := ((6 * t) + 2)) (by omega) (by decide) d_Id_schedule_158 ?_
          clear he18
          refine ag_topi (fun x19 ex19 => ?_)
          refine lv_ineg hx hb d_Id_schedule_159 ?_
          refine ag_topi (fun x20 ex20 => ?_)
          refine lv_ldc (v := 65535) hx hb hown (hG _ gw_4_36) d_Id_schedule_160 ?_
          refine lv_iand hx hb d_Id_schedule_162 ?_
          refine ag_topi (fun x21 ex21 => ?_)
          have he22 := zr_C14 hSh hj
          refine ag_ist hx hb hK hP hD hS (3 + 16 * j + 14) 0 he22 rfl (k := ((6 * t) + 2)) (by omega) (by decide) d_Id_schedule_163 (zw_A14w hSh hj ((6 * t) + 2) x21) ?_
          clear hP hD hSh hS he22
          intro H locs L hP hD hSh hS
          obtain ⟨zA23, ezA23⟩ : ∃ z : Nat → Nat → Nat → Int32, az_w zA15 j 14 ((6 * t) + 2) x21 = z := ⟨_, rfl⟩
          rw [ezA23] at hSh
          refine lv_aload_n hx hb d_Id_schedule_164 rfl (lv_at hl 0 rfl) ?_
          have he24 := zr_C12 hSh hj
          refine va_get (C := R_Id) (T := T_Id) (N := 2) (v := .ref (aw_c ad j 14)) hx hb hG in_Id hown hK hP (3 + 16 * j + 12) he24 rfl 1 (by decide) (hG _ gw_1_31) (fun _ h => h) rfl d_Id_schedule_165 ?_
          clear he24
          refine lv_iload hx hb d_Id_schedule_168 (lv_at hl 5 rfl) ?_
          refine lv_iconst (v := nI 3) hx hb d_Id_schedule_170 (by decide +kernel) ?_
          refine lv_iadd hx hb d_Id_schedule_171 ?_
          refine aw_ti (nI_add (6 * t) 3) ?_
          refine lv_aload_n hx hb d_Id_schedule_172 rfl (lv_at hl 0 rfl) ?_
          have he25 := zr_C12 hSh hj
          refine va_get (C := R_Id) (T := T_Id) (N := 2) (v := .ref (aw_c ad j 13)) hx hb hG in_Id hown hK hP (3 + 16 * j + 12) he25 rfl 0 (by decide) (hG _ gw_0_46) (fun x9 h9 => u_same (hG _ gw_0_47) x9 h9) rfl d_Id_schedule_173 ?_
          clear he25
          refine lv_iload hx hb d_Id_schedule_176 (lv_at hl 5 rfl) ?_
          refine lv_iconst (v := nI 3) hx hb d_Id_schedule_178 (by decide +kernel) ?_
          refine lv_iadd hx hb d_Id_schedule_179 ?_
          refine aw_ti (nI_add (6 * t) 3) ?_
          have he26 := zr_C13 hSh hj
          refine aw_ild hx hb hK hP (3 + 16 * j + 13) 0 he26 rfl (k := ((6 * t) + 3)) (by omega) (by decide) d_Id_schedule_180 ?_
          clear he26
          refine ag_topi (fun x27 ex27 => ?_)
          refine aw_ci ((va_runS (As := [.int x27]) (rest := [.int (nI ((6 * t) + 3)), .ref (aw_c ad j 14)]) ⟨hx, hb, hml, hown, hG⟩ (k_Id_inverseV l x27) (aw_wS 1 hG gw_4_39 gw_4_37 gw_0_8 gw_4_38 rfl rfl hd_Id_inverse ⟨Nat.le_of_ble_eq_true rfl, Nat.le_of_ble_eq_true rfl⟩) aw_p0 rfl rfl hl.1 rfl (lv_room (Nat.le_of_ble_eq_true rfl)) d_Id_schedule_181 ⟨Nat.le_of_ble_eq_true rfl, Nat.le_of_ble_eq_true rfl⟩).run) (fun x28 ex28 => ?_)
          have ex28 := ex28.symm
          have he29 := zr_C14 hSh hj
          refine ag_ist hx hb hK hP hD hS (3 + 16 * j + 14) 0 he29 rfl (k := ((6 * t) + 3)) (by omega) (by decide) d_Id_schedule_184 (zw_A14w hSh hj ((6 * t) + 3) x28) ?_
          clear hP hD hSh hS he29
          intro H locs L hP hD hSh hS
          obtain ⟨zA30, ezA30⟩ : ∃ z : Nat → Nat → Nat → Int32, az_w zA23 j 14 ((6 * t) + 3) x28 = z := ⟨_, rfl⟩
          rw [ezA30] at hSh
          refine lv_iinc (k := 5) (v := nI (6 * t + 6)) hx hb d_Id_schedule_185 hl rfl (aw_inc (6 * t) 6 6 (by decide +kernel)) (by decide) rfl (fun ls hl => ?_)
          have hl : lv_has ls 13 [(9, .int (nI (6 * t + 6))), (0, .ref (aw_c ad j 12)), (1, .long a), (3, .long b), (5, .long ((v_Id_scheduleV_L9 zA j a b 52).1)), (7, .long ((v_Id_scheduleV_L9 zA j a b 52).2.1))] := hl
          refine lv_goto (tgt := 96) hx hb d_Id_schedule_188 (by decide) ?_
          have hl := lv_sub hl (l' := [(0, .ref (aw_c ad j 12)), (1, .long a), (3, .long b), (5, .long ((v_Id_scheduleV_L9 zA j a b 52).1)), (7, .long ((v_Id_scheduleV_L9 zA j a b 52).2.1)), (9, .int (nI (6 * t + 6)))]) [1, 2, 3, 4, 5, 0] rfl
          have g0 : zA30 = (v_Id_scheduleV_L96 zA j a b (t + 1)) := by subst ezA30 ex28 ex27 ezA23 ex21 ex20 ex19 ezA15 ex13 ex12 ex11 ezA7 ex5 ex4; (rw [v_Id_scheduleV_L96_s]) <;> rfl
          have hSh : az_Sh g ad zG zO zX zY ((v_Id_scheduleV_L96 zA j a b (t + 1))) zB zM zI zL zK zN zF zQ L := by rw [← g0]; exact hSh
          exact ih (t + 1) H locs L ls (by omega) hP hD hSh hS (by first | exact hl | simpa [Nat.add_assoc, Nat.mul_add, Nat.add_comm] using hl)
      have hl := lv_sub hl (l' := [(0, .ref (aw_c ad j 12)), (1, .long a), (3, .long b), (5, .long ((v_Id_scheduleV_L9 zA j a b 52).1)), (7, .long ((v_Id_scheduleV_L9 zA j a b 52).2.1)), (9, .int (nI 0))]) [1, 2, 3, 4, 5, 0] rfl
      have g0 : (v_Id_scheduleV_L9 zA j a b 52).2.2 = (v_Id_scheduleV_L96 zA j a b 0) := by (rw [v_Id_scheduleV_L96_z]) <;> rfl
      have hSh : az_Sh g ad zG zO zX zY ((v_Id_scheduleV_L96 zA j a b 0)) zB zM zI zL zK zN zF zQ L := by rw [← g0]; exact hSh
      exact L96 9 0 _ _ L ls (by omega) hP hD hSh hS (by first | exact hl | simpa using hl)
    | succ d ih =>
      intro t H locs L ls ht0 hP hD hSh hS hl
      refine lv_iload hx hb d_Id_schedule_9 (lv_at hl 5 rfl) ?_
      refine lv_bipush (v := nI 52) hx hb d_Id_schedule_11 (by decide +kernel) ?_
      refine lv_icmp_ge (tgt := 93) hx hb d_Id_schedule_13 (by decide) (fun h => absurd h (show ¬ nI 52 ≤ nI t from fun h9 => absurd ((nI_leI (by omega) (by omega)).mp h9) (by omega))) (fun _ => ?_)
      refine lv_iload hx hb d_Id_schedule_16 (lv_at hl 5 rfl) ?_
      refine lv_bipush (v := nI 8) hx hb d_Id_schedule_18 (by decide +kernel) ?_
      refine lv_irem hx hb d_Id_schedule_20 (by decide +kernel) ?_
      refine aw_ti (pk_rem (a := t) (d := 8) (by omega) (by omega) (by omega)) ?_
      refine lv_istore hx hb d_Id_schedule_21 hl (by decide) rfl (fun ls hl => ?_)
      have hl : lv_has ls 13 [(10, .int (nI (t % 8))), (0, .ref (aw_c ad j 12)), (1, .long a), (3, .long b), (5, .long ((v_Id_scheduleV_L9 zA j a b t).1)), (7, .long ((v_Id_scheduleV_L9 zA j a b t).2.1)), (9, .int (nI t))] := hl
      refine lv_aload_n hx hb d_Id_schedule_23 rfl (lv_at hl 1 rfl) ?_
      have he31 := zr_C12 hSh hj
      refine va_get (C := R_Id) (T := T_Id) (N := 2) (v := .ref (aw_c ad j 13)) hx hb hG in_Id hown hK hP (3 + 16 * j + 12) he31 rfl 0 (by decide) (hG _ gw_0_46) (fun x9 h9 => u_same (hG _ gw_0_47) x9 h9) rfl d_Id_schedule_24 ?_
      clear he31
      refine lv_iload hx hb d_Id_schedule_27 (lv_at hl 6 rfl) ?_
      refine lv_iload hx hb d_Id_schedule_29 (lv_at hl 0 rfl) ?_
      refine lv_iconst (v := nI 4) hx hb d_Id_schedule_31 (by decide +kernel) ?_
      refine lv_icmp_ge (tgt := 40) hx hb d_Id_schedule_32 (by decide) (fun hb32 => ?_) (fun hb32 => ?_)
      · have nhb32 : 4 ≤ t % 8 := (nI_leI (by omega) (by omega)).mp hb32
        refine lv_lload hx hb d_Id_schedule_40 (lv_at hl 5 rfl) ?_
        refine lv_iload hx hb d_Id_schedule_42 (lv_at hl 0 rfl) ?_
        refine lv_iconst (v := nI 4) hx hb d_Id_schedule_44 (by decide +kernel) ?_
        refine lv_irem hx hb d_Id_schedule_45 (by decide +kernel) ?_
        refine aw_ti (pk_rem (a := (t % 8)) (d := 4) (by omega) (by omega) (by omega)) ?_
        refine aw_ci ((va_runS (As := [.long ((v_Id_scheduleV_L9 zA j a b t).2.1), .int (nI ((t % 8) % 4))]) (rest := [.int (nI t), .ref (aw_c ad j 13)]) ⟨hx, hb, hml, hown, hG⟩ (k_Id_quarterOfV l ((v_Id_scheduleV_L9 zA j a b t).2.1) (nI ((t % 8) % 4))) (aw_wS 2 hG gw_4_35 gw_4_33 gw_0_8 gw_4_34 rfl rfl hd_Id_quarterOf ⟨Nat.le_of_ble_eq_true rfl, Nat.le_of_ble_eq_true rfl⟩) aw_p0 rfl rfl hl.1 rfl (lv_room (Nat.le_of_ble_eq_true rfl)) d_Id_schedule_46 ⟨Nat.le_of_ble_eq_true rfl, Nat.le_of_ble_eq_true rfl⟩).run) (fun x33 ex33 => ?_)
        have ex33 := ex33.symm
        have he34 := zr_C13 hSh hj
        refine ag_ist hx hb hK hP hD hS (3 + 16 * j + 13) 0 he34 rfl (k := t) (by omega) (by decide) d_Id_schedule_49 (zw_A13w hSh hj t x33) ?_
        clear hP hD hSh hS he34
        intro H locs L hP hD hSh hS
        obtain ⟨zA35, ezA35⟩ : ∃ z : Nat → Nat → Nat → Int32, az_w ((v_Id_scheduleV_L9 zA j a b t).2.2) j 13 t x33 = z := ⟨_, rfl⟩
        rw [ezA35] at hSh
        refine lv_iload hx hb d_Id_schedule_50 (lv_at hl 0 rfl) ?_
        refine lv_bipush (v := nI 7) hx hb d_Id_schedule_52 (by decide +kernel) ?_
        refine lv_icmp_ne (tgt := 87) hx hb d_Id_schedule_54 (by decide) (fun hb36 => ?_) (fun hb36 => ?_)
        · have nhb36 : ¬ t % 8 = 7 := fun z => absurd ((nI_eq (by omega) (by omega)).mpr z) hb36
          refine lv_iinc (k := 6) (v := nI (t + 1)) hx hb d_Id_schedule_87 hl rfl (aw_inc t 1 1 (by decide +kernel)) (by decide) rfl (fun ls hl => ?_)
          have hl : lv_has ls 13 [(9, .int (nI (t + 1))), (10, .int (nI (t % 8))), (0, .ref (aw_c ad j 12)), (1, .long a), (3, .long b), (5, .long ((v_Id_scheduleV_L9 zA j a b t).1)), (7, .long ((v_Id_scheduleV_L9 zA j a b t).2.1))] := hl
          refine lv_goto (tgt := 9) hx hb d_Id_schedule_90 (by decide) ?_
          have hl := lv_sub hl (l' := [(0, .ref (aw_c ad j 12)), (1, .long a), (3, .long b), (5, .long ((v_Id_scheduleV_L9 zA j a b t).1)), (7, .long ((v_Id_scheduleV_L9 zA j a b t).2.1)), (9, .int (nI (t + 1)))]) [2, 3, 4, 5, 6, 0] rfl
          have g0 : (v_Id_scheduleV_L9 zA j a b t).1 = (v_Id_scheduleV_L9 zA j a b (t + 1)).1 := by subst ezA35 ex33; (rw [v_Id_scheduleV_L9_s, if_pos hb32, if_neg hb36]) <;> rfl
          have g1 : (v_Id_scheduleV_L9 zA j a b t).2.1 = (v_Id_scheduleV_L9 zA j a b (t + 1)).2.1 := by subst ezA35 ex33; (rw [v_Id_scheduleV_L9_s, if_pos hb32, if_neg hb36]) <;> rfl
          have g2 : zA35 = (v_Id_scheduleV_L9 zA j a b (t + 1)).2.2 := by subst ezA35 ex33; (rw [v_Id_scheduleV_L9_s, if_pos hb32, if_neg hb36]) <;> rfl
          have hl : lv_has ls 13 [(0, .ref (aw_c ad j 12)), (1, .long a), (3, .long b), (5, .long ((v_Id_scheduleV_L9 zA j a b (t + 1)).1)), (7, .long ((v_Id_scheduleV_L9 zA j a b (t + 1)).2.1)), (9, .int (nI (t + 1)))] := by rw [← g0, ← g1]; exact hl
          have hSh : az_Sh g ad zG zO zX zY ((v_Id_scheduleV_L9 zA j a b (t + 1)).2.2) zB zM zI zL zK zN zF zQ L := by rw [← g2]; exact hSh
          exact ih (t + 1) H locs L ls (by omega) hP hD hSh hS (by first | exact hl | simpa [Nat.add_assoc, Nat.mul_add, Nat.add_comm] using hl)
        · have nhb36 : t % 8 = 7 := (nI_eq (by omega) (by omega)).mp hb36
          refine lv_lload hx hb d_Id_schedule_57 (lv_at hl 4 rfl) ?_
          refine lv_lstore hx hb d_Id_schedule_59 hl (by decide) rfl (fun ls hl => ?_)
          have hl : lv_has ls 13 [(11, .long ((v_Id_scheduleV_L9 zA j a b t).1)), (10, .int (nI (t % 8))), (0, .ref (aw_c ad j 12)), (1, .long a), (3, .long b), (5, .long ((v_Id_scheduleV_L9 zA j a b t).1)), (7, .long ((v_Id_scheduleV_L9 zA j a b t).2.1)), (9, .int (nI t))] := hl
          refine lv_lload hx hb d_Id_schedule_61 (lv_at hl 5 rfl) ?_
          refine lv_bipush (v := nI 25) hx hb d_Id_schedule_63 (by decide +kernel) ?_
          refine lv_lshl hx hb d_Id_schedule_65 rfl ?_
          refine ag_topl (fun y37 ey37 => ?_)
          refine lv_lload hx hb d_Id_schedule_66 (lv_at hl 6 rfl) ?_
          refine lv_bipush (v := nI 39) hx hb d_Id_schedule_68 (by decide +kernel) ?_
          refine lv_lushr hx hb d_Id_schedule_70 rfl ?_
          refine ag_topl (fun y38 ey38 => ?_)
          refine lv_lor hx hb d_Id_schedule_71 ?_
          refine ag_topl (fun y39 ey39 => ?_)
          refine lv_lstore hx hb d_Id_schedule_72 hl (by decide) rfl (fun ls hl => ?_)
          have hl : lv_has ls 13 [(5, .long y39), (11, .long ((v_Id_scheduleV_L9 zA j a b t).1)), (10, .int (nI (t % 8))), (0, .ref (aw_c ad j 12)), (1, .long a), (3, .long b), (7, .long ((v_Id_scheduleV_L9 zA j a b t).2.1)), (9, .int (nI t))] := hl
          refine lv_lload hx hb d_Id_schedule_74 (lv_at hl 6 rfl) ?_
          refine lv_bipush (v := nI 25) hx hb d_Id_schedule_76 (by decide +kernel) ?_
          refine lv_lshl hx hb d_Id_schedule_78 rfl ?_
          refine ag_topl (fun y40 ey40 => ?_)
          refine lv_lload hx hb d_Id_schedule_79 (lv_at hl 1 rfl) ?_
          refine lv_bipush (v := nI 39) hx hb d_Id_schedule_81 (by decide +kernel) ?_
          refine lv_lushr hx hb d_Id_schedule_83 rfl ?_
          refine ag_topl (fun y41 ey41 => ?_)
          refine lv_lor hx hb d_Id_schedule_84 ?_
          refine ag_topl (fun y42 ey42 => ?_)
          refine lv_lstore hx hb d_Id_schedule_85 hl (by decide) rfl (fun ls hl => ?_)
          have hl : lv_has ls 13 [(7, .long y42), (5, .long y39), (11, .long ((v_Id_scheduleV_L9 zA j a b t).1)), (10, .int (nI (t % 8))), (0, .ref (aw_c ad j 12)), (1, .long a), (3, .long b), (9, .int (nI t))] := hl
          refine lv_iinc (k := 7) (v := nI (t + 1)) hx hb d_Id_schedule_87 hl rfl (aw_inc t 1 1 (by decide +kernel)) (by decide) rfl (fun ls hl => ?_)
          have hl : lv_has ls 13 [(9, .int (nI (t + 1))), (7, .long y42), (5, .long y39), (11, .long ((v_Id_scheduleV_L9 zA j a b t).1)), (10, .int (nI (t % 8))), (0, .ref (aw_c ad j 12)), (1, .long a), (3, .long b)] := hl
          refine lv_goto (tgt := 9) hx hb d_Id_schedule_90 (by decide) ?_
          have hl := lv_sub hl (l' := [(0, .ref (aw_c ad j 12)), (1, .long a), (3, .long b), (5, .long y39), (7, .long y42), (9, .int (nI (t + 1)))]) [5, 6, 7, 2, 1, 0] rfl
          have g0 : y39 = (v_Id_scheduleV_L9 zA j a b (t + 1)).1 := by subst ey42 ey41 ey40 ey39 ey38 ey37 ezA35 ex33; (rw [v_Id_scheduleV_L9_s, if_pos hb32, if_pos hb36]) <;> rfl
          have g1 : y42 = (v_Id_scheduleV_L9 zA j a b (t + 1)).2.1 := by subst ey42 ey41 ey40 ey39 ey38 ey37 ezA35 ex33; (rw [v_Id_scheduleV_L9_s, if_pos hb32, if_pos hb36]) <;> rfl
          have g2 : zA35 = (v_Id_scheduleV_L9 zA j a b (t + 1)).2.2 := by subst ey42 ey41 ey40 ey39 ey38 ey37 ezA35 ex33; (rw [v_Id_scheduleV_L9_s, if_pos hb32, if_pos hb36]) <;> rfl
          have hl : lv_has ls 13 [(0, .ref (aw_c ad j 12)), (1, .long a), (3, .long b), (5, .long ((v_Id_scheduleV_L9 zA j a b (t + 1)).1)), (7, .long ((v_Id_scheduleV_L9 zA j a b (t + 1)).2.1)), (9, .int (nI (t + 1)))] := by rw [← g0, ← g1]; exact hl
          have hSh : az_Sh g ad zG zO zX zY ((v_Id_scheduleV_L9 zA j a b (t + 1)).2.2) zB zM zI zL zK zN zF zQ L := by rw [← g2]; exact hSh
          exact ih (t + 1) H locs L ls (by omega) hP hD hSh hS (by first | exact hl | simpa [Nat.add_assoc, Nat.mul_add, Nat.add_comm] using hl)
      · have nhb32 : ¬ 4 ≤ t % 8 := fun z => absurd ((nI_leI (by omega) (by omega)).mpr z) hb32
        refine lv_lload hx hb d_Id_schedule_35 (lv_at hl 4 rfl) ?_
        refine lv_goto (tgt := 42) hx hb d_Id_schedule_37 (by decide) ?_
        refine lv_iload hx hb d_Id_schedule_42 (lv_at hl 0 rfl) ?_
        refine lv_iconst (v := nI 4) hx hb d_Id_schedule_44 (by decide +kernel) ?_
        refine lv_irem hx hb d_Id_schedule_45 (by decide +kernel) ?_
        refine aw_ti (pk_rem (a := (t % 8)) (d := 4) (by omega) (by omega) (by omega)) ?_
        refine aw_ci ((va_runS (As := [.long ((v_Id_scheduleV_L9 zA j a b t).1), .int (nI ((t % 8) % 4))]) (rest := [.int (nI t), .ref (aw_c ad j 13)]) ⟨hx, hb, hml, hown, hG⟩ (k_Id_quarterOfV l ((v_Id_scheduleV_L9 zA j a b t).1) (nI ((t % 8) % 4))) (aw_wS 2 hG gw_4_35 gw_4_33 gw_0_8 gw_4_34 rfl rfl hd_Id_quarterOf ⟨Nat.le_of_ble_eq_true rfl, Nat.le_of_ble_eq_true rfl⟩) aw_p0 rfl rfl hl.1 rfl (lv_room (Nat.le_of_ble_eq_true rfl)) d_Id_schedule_46 ⟨Nat.le_of_ble_eq_true rfl, Nat.le_of_ble_eq_true rfl⟩).run) (fun x43 ex43 => ?_)
        have ex43 := ex43.symm
        have he44 := zr_C13 hSh hj
        refine ag_ist hx hb hK hP hD hS (3 + 16 * j + 13) 0 he44 rfl (k := t) (by omega) (by decide) d_Id_schedule_49 (zw_A13w hSh hj t x43) ?_
        clear hP hD hSh hS he44
        intro H locs L hP hD hSh hS
        obtain ⟨zA45, ezA45⟩ : ∃ z : Nat → Nat → Nat → Int32, az_w ((v_Id_scheduleV_L9 zA j a b t).2.2) j 13 t x43 = z := ⟨_, rfl⟩
        rw [ezA45] at hSh
        refine lv_iload hx hb d_Id_schedule_50 (lv_at hl 0 rfl) ?_
        refine lv_bipush (v := nI 7) hx hb d_Id_schedule_52 (by decide +kernel) ?_
        refine lv_icmp_ne (tgt := 87) hx hb d_Id_schedule_54 (by decide) (fun _ => ?_) (fun h => absurd h (show ¬ nI (t % 8) = nI 7 from fun h9 => absurd ((nI_eq (by omega) (by omega)).mp h9) (by omega)))
        refine lv_iinc (k := 6) (v := nI (t + 1)) hx hb d_Id_schedule_87 hl rfl (aw_inc t 1 1 (by decide +kernel)) (by decide) rfl (fun ls hl => ?_)
        have hl : lv_has ls 13 [(9, .int (nI (t + 1))), (10, .int (nI (t % 8))), (0, .ref (aw_c ad j 12)), (1, .long a), (3, .long b), (5, .long ((v_Id_scheduleV_L9 zA j a b t).1)), (7, .long ((v_Id_scheduleV_L9 zA j a b t).2.1))] := hl
        refine lv_goto (tgt := 9) hx hb d_Id_schedule_90 (by decide) ?_
        have hl := lv_sub hl (l' := [(0, .ref (aw_c ad j 12)), (1, .long a), (3, .long b), (5, .long ((v_Id_scheduleV_L9 zA j a b t).1)), (7, .long ((v_Id_scheduleV_L9 zA j a b t).2.1)), (9, .int (nI (t + 1)))]) [2, 3, 4, 5, 6, 0] rfl
        have g0 : (v_Id_scheduleV_L9 zA j a b t).1 = (v_Id_scheduleV_L9 zA j a b (t + 1)).1 := by subst ezA45 ex43; (rw [v_Id_scheduleV_L9_s, if_neg hb32]) <;> rfl
        have g1 : (v_Id_scheduleV_L9 zA j a b t).2.1 = (v_Id_scheduleV_L9 zA j a b (t + 1)).2.1 := by subst ezA45 ex43; (rw [v_Id_scheduleV_L9_s, if_neg hb32]) <;> rfl
        have g2 : zA45 = (v_Id_scheduleV_L9 zA j a b (t + 1)).2.2 := by subst ezA45 ex43; (rw [v_Id_scheduleV_L9_s, if_neg hb32]) <;> rfl
        have hl : lv_has ls 13 [(0, .ref (aw_c ad j 12)), (1, .long a), (3, .long b), (5, .long ((v_Id_scheduleV_L9 zA j a b (t + 1)).1)), (7, .long ((v_Id_scheduleV_L9 zA j a b (t + 1)).2.1)), (9, .int (nI (t + 1)))] := by rw [← g0, ← g1]; exact hl
        have hSh : az_Sh g ad zG zO zX zY ((v_Id_scheduleV_L9 zA j a b (t + 1)).2.2) zB zM zI zL zK zN zF zQ L := by rw [← g2]; exact hSh
        exact ih (t + 1) H locs L ls (by omega) hP hD hSh hS (by first | exact hl | simpa [Nat.add_assoc, Nat.mul_add, Nat.add_comm] using hl)
  have hl := lv_sub hl (l' := [(0, .ref (aw_c ad j 12)), (1, .long a), (3, .long b), (5, .long a), (7, .long b), (9, .int (nI 0))]) [3, 4, 5, 2, 1, 0] rfl
  have g0 : a = (v_Id_scheduleV_L9 zA j a b 0).1 := by (rw [v_Id_scheduleV_L9_z]) <;> rfl
  have g1 : b = (v_Id_scheduleV_L9 zA j a b 0).2.1 := by (rw [v_Id_scheduleV_L9_z]) <;> rfl
  have g2 : zA = (v_Id_scheduleV_L9 zA j a b 0).2.2 := by (rw [v_Id_scheduleV_L9_z]) <;> rfl
  have hl : lv_has ls 13 [(0, .ref (aw_c ad j 12)), (1, .long a), (3, .long b), (5, .long ((v_Id_scheduleV_L9 zA j a b 0).1)), (7, .long ((v_Id_scheduleV_L9 zA j a b 0).2.1)), (9, .int (nI 0))] := by rw [← g0, ← g1]; exact hl
  have hSh : az_Sh g ad zG zO zX zY ((v_Id_scheduleV_L9 zA j a b 0).2.2) zB zM zI zL zK zN zF zQ L := by rw [← g2]; exact hSh
  exact L9 52 0 _ _ L ls (by omega) hP hD hSh hS (by first | exact hl | simpa using hl)
