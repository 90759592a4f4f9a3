abbrev ws_Ru_contextAt1V : List Cond := Cond.code y_Ru_contextAt b_Ru_contextAt 2 (some (.object "RuleCiphers$Context")) :: aw_G
abbrev rm_Ru_contextAt1V : Room := { frames := 0, cells := 0, slots := 0, locals := 0 }
set_option maxHeartbeats 4000000 in
set_option maxRecDepth 100000 in
theorem k_Ru_contextAt1V (l : Launch) (D : va_G) (g : Nat → ClassId) (ad : Nat → Nat) (N0 : Nat) (zG : Nat → Nat × Nat) (zO : Nat → Nat) (zX : Nat → Nat → Int64) (zY : Nat → Nat → Int32) (zA : Nat → Nat → Nat → Int32) (zB : Nat → Int32) (zM : Nat → Nat × Nat) (zI : Nat → Nat → Int32) (zL : Nat → Nat → Int64) (zK : Int32) (zN : Nat) (zF : Int32) (zQ : Int64) (j : Nat) (hj : j < 4) : Met l y_Ru_contextAt ws_Ru_contextAt1V rm_Ru_contextAt1V (va_Pc ([.ref (aw_r ad 0), .int (nI j)] : List Value) (ag_B D g N0 (az_Sh g ad zG zO zX zY zA zB zM zI zL zK zN zF zQ))) (va_Qr (fun (_ : Unit) => True) (fun (_ : Unit) a t => a = aw_c ad j 0 ∧ ag_H D N0 (az_Sh g ad zG zO zX zY zA zB zM zI zL zK zN zF zQ) t.heap) (aw_Z N0)) 0 0 (aw_Z N0) := by
  refine Met.ofW (cc := b_Ru_contextAt) (maxL := 2) (ret := (some (.object "RuleCiphers$Context"))) (by decide) rfl ?_
  intro p e s m args below meth c s₁ B hml hv
  obtain ⟨rfl, ⟨L, hP, hD, hSh⟩, hU⟩ := hv
  have hx := B.exec
  have hb := B.bytes
  have hr := B.returns
  have hG : ∀ w ∈ aw_G, w.before _ s = true := fun w h => atoms_spec (ws := ws_Ru_contextAt1V) B.pre w (List.mem_cons_of_mem _ h)
  have hown : s.vm.findClass "RuleCiphers" = some m.cls := findClass_of_methodNamed B.named
  have hlocks := B.notSynchronized
  have hE := hU.1
  have hK := hE.1
  have hN := hE.2.1
  have hS : va_S (aw_Z N0) s.heap s.heap [] := va_S.rf
  have hl := lv_entry ([.ref (aw_r ad 0), .int (nI j)] : List Value) (n := 2) (Nat.le_of_ble_eq_true rfl)
  rw [lg_entry_eq]
  generalize (lg_sl ([.ref (aw_r ad 0), .int (nI j)] : List Value) ++ List.replicate (2 - (lg_sl ([.ref (aw_r ad 0), .int (nI j)] : List Value)).length) Slot.unset).toArray = ls at hl ⊢
  have hl : lv_has ls 2 [(0, .ref (aw_r ad 0)), (1, .int (nI j))] := hl
  refine lv_iload_n hx hb d_Ru_contextAt_0 rfl (lv_at hl 1 rfl) ?_
  refine lv_if_lt (tgt := 9) hx hb d_Ru_contextAt_1 (by decide) (fun h => absurd h (show ¬ nI j < nI 0 from fun h9 => absurd ((nI_ltI (by omega) (by omega)).mp h9) (by omega))) (fun _ => ?_)
  refine lv_iload_n hx hb d_Ru_contextAt_4 rfl (lv_at hl 1 rfl) ?_
  refine lv_iconst (v := nI 4) hx hb d_Ru_contextAt_5 (by decide +kernel) ?_
  refine lv_icmp_lt (tgt := 19) hx hb d_Ru_contextAt_6 (by decide) (fun _ => ?_) (fun h => absurd (show nI j < nI 4 from (nI_ltI (by omega) (by omega)).mpr (by omega)) h)
  refine lv_aload_n hx hb d_Ru_contextAt_19 rfl (lv_at hl 0 rfl) ?_
  have he1 := zr_R0 hSh
  refine va_get (C := R_Ru) (T := T_Ru) (N := 2) (v := .ref (aw_r ad 1)) hx hb hG in_Ru hown hK hP 0 he1 rfl 0 (by decide) (hG _ gw_2_28) (fun _ h => h) rfl d_Ru_contextAt_20 ?_
  clear he1
  refine lv_iload_n hx hb d_Ru_contextAt_23 rfl (lv_at hl 1 rfl) ?_
  obtain ⟨f3, hc4, he2⟩ := zr_R1 hSh
  refine aw_ald hx hb hK hP 1 3 he2 rfl (k := j) (by omega) (by decide) (hc4 _ (by omega)) d_Ru_contextAt_24 ?_
  exact W.aret hx hb hr (Or.inl ⟨_, rfl⟩) (Or.inr ⟨_, rfl⟩) (fun t ht hW => ⟨⟨(), _, rfl, trivial, ⟨rfl, ag_Hr ht hP hD hSh⟩⟩, hS.F ht⟩) hS.2.2 d_Ru_contextAt_25
abbrev ws_Ru_contextAtXV : List Cond := Cond.code y_Ru_contextAt b_Ru_contextAt 2 (some (.object "RuleCiphers$Context")) :: aw_G
abbrev rm_Ru_contextAtXV : Room := { frames := 6, cells := 1, slots := 6, locals := 90 }
set_option maxHeartbeats 4000000 in
set_option maxRecDepth 100000 in
theorem k_Ru_contextAtXV (l : Launch) (hst : l.stackTraces = false) (D : va_G) (g : Nat → ClassId) (ad : Nat → Nat) (N0 : Nat) (zG : Nat → Nat × Nat) (zO : Nat → Nat) (zX : Nat → Nat → Int64) (zY : Nat → Nat → Int32) (zA : Nat → Nat → Nat → Int32) (zB : Nat → Int32) (zM : Nat → Nat × Nat) (zI : Nat → Nat → Int32) (zL : Nat → Nat → Int64) (zK : Int32) (zN : Nat) (zF : Int32) (zQ : Int64) (c0 : Int32) (hc : c0 < 0 ∨ (¬ c0 < 0 ∧ ¬ c0 < nI 4)) : vx_Met l y_Ru_contextAt ws_Ru_contextAtXV rm_Ru_contextAtXV (va_Pc ([.ref (aw_r ad 0), .int c0] : List Value) (ag_B D g N0 (az_Sh g ad zG zO zX zY zA zB zM zI zL zK zN zF zQ))) (va_Qv (fun (_ : Unit) => False) (fun (_ : Unit) _ => True) (aw_Z N0)) (vx_X (fun (_ : Unit) => True) (fun E (_ : Unit) t => E = "java/lang/IndexOutOfBoundsException" ∧ ag_H D N0 (az_Sh g ad zG zO zX zY zA zB zM zI zL zK zN zF zQ) t.heap) (aw_Z N0)) 1 6 (aw_Z N0) := by
  refine vx_ofW (cc := b_Ru_contextAt) (maxL := 2) (ret := (some (.object "RuleCiphers$Context"))) (by decide) rfl ?_
  intro p e s m args below meth c s₁ B hml hex hv
  obtain ⟨rfl, ⟨L, hP, hD, hSh⟩, hU⟩ := hv
  have hx := B.exec
  have hb := B.bytes
  have hr := B.returns
  have hG : ∀ w ∈ aw_G, w.before _ s = true := fun w h => atoms_spec (ws := ws_Ru_contextAtXV) B.pre w (List.mem_cons_of_mem _ h)
  have hown : s.vm.findClass "RuleCiphers" = some m.cls := findClass_of_methodNamed B.named
  have hlocks := B.notSynchronized
  have hE := hU.1
  have hK := hE.1
  have hN := hE.2.1
  have hS : va_S (aw_Z N0) s.heap s.heap [] := va_S.rf
  have hl := lv_entry ([.ref (aw_r ad 0), .int c0] : List Value) (n := 2) (Nat.le_of_ble_eq_true rfl)
  rw [lg_entry_eq]
  generalize (lg_sl ([.ref (aw_r ad 0), .int c0] : List Value) ++ List.replicate (2 - (lg_sl ([.ref (aw_r ad 0), .int c0] : List Value)).length) Slot.unset).toArray = ls at hl ⊢
  have hl : lv_has ls 2 [(0, .ref (aw_r ad 0)), (1, .int c0)] := hl
  rcases hc with hc | hc
  · refine lv_iload_n hx hb d_Ru_contextAt_0 rfl (lv_at hl 1 rfl) ?_
    refine lv_if_lt (tgt := 9) hx hb d_Ru_contextAt_1 (by decide) (fun _ => ?_) (fun h => absurd hc h)
    obtain ⟨sa1, hsa1⟩ := hU.2.1.2.2 (114, "there is no such context") (by decide)
    exact ag_thr hx hb hst (names := ["java/lang/RuntimeException", "java/lang/Exception"]) hown (by decide +kernel) (by decide +kernel) (hG _ gw_2_48) (hG _ gw_0_14) hsa1 (aw_hat_Ru_116 hG hE) (by decide +kernel) hU hP hD hSh hS (by rw [hml]; exact hl.1) d_Ru_contextAt_9 d_Ru_contextAt_12 d_Ru_contextAt_13 d_Ru_contextAt_15 d_Ru_contextAt_18 (fun x h => (hex x h).elim) (by decide) (Nat.le_of_ble_eq_true rfl) (Nat.le_of_ble_eq_true rfl) (Nat.le_of_ble_eq_true rfl) hlocks (Nat.le_of_ble_eq_true rfl) (Nat.le_of_ble_eq_true rfl)
  · refine lv_iload_n hx hb d_Ru_contextAt_0 rfl (lv_at hl 1 rfl) ?_
    refine lv_if_lt (tgt := 9) hx hb d_Ru_contextAt_1 (by decide) (fun h => absurd h hc.1) (fun _ => ?_)
    refine lv_iload_n hx hb d_Ru_contextAt_4 rfl (lv_at hl 1 rfl) ?_
    refine lv_iconst (v := nI 4) hx hb d_Ru_contextAt_5 (by decide +kernel) ?_
    refine lv_icmp_lt (tgt := 19) hx hb d_Ru_contextAt_6 (by decide) (fun h => absurd h hc.2) (fun _ => ?_)
    obtain ⟨sa2, hsa2⟩ := hU.2.1.2.2 (114, "there is no such context") (by decide)
    exact ag_thr hx hb hst (names := ["java/lang/RuntimeException", "java/lang/Exception"]) hown (by decide +kernel) (by decide +kernel) (hG _ gw_2_48) (hG _ gw_0_14) hsa2 (aw_hat_Ru_116 hG hE) (by decide +kernel) hU hP hD hSh hS (by rw [hml]; exact hl.1) d_Ru_contextAt_9 d_Ru_contextAt_12 d_Ru_contextAt_13 d_Ru_contextAt_15 d_Ru_contextAt_18 (fun x h => (hex x h).elim) (by decide) (Nat.le_of_ble_eq_true rfl) (Nat.le_of_ble_eq_true rfl) (Nat.le_of_ble_eq_true rfl) hlocks (Nat.le_of_ble_eq_true rfl) (Nat.le_of_ble_eq_true rfl)
abbrev ws_Ru_requireKey1V : List Cond := Cond.code y_Ru_requireKey b_Ru_requireKey 1 none :: aw_G
abbrev rm_Ru_requireKey1V : Room := { frames := 0, cells := 0, slots := 0, locals := 0 }
set_option maxHeartbeats 4000000 in
set_option maxRecDepth 100000 in
theorem k_Ru_requireKey1V (l : Launch) (D : va_G) (g : Nat → ClassId) (ad : Nat → Nat) (N0 : Nat) (zG : Nat → Nat × Nat) (zO : Nat → Nat) (zX : Nat → Nat → Int64) (zY : Nat → Nat → Int32) (zA : Nat → Nat → Nat → Int32) (zB : Nat → Int32) (zM : Nat → Nat × Nat) (zI : Nat → Nat → Int32) (zL : Nat → Nat → Int64) (zK : Int32) (zN : Nat) (zF : Int32) (zQ : Int64) (j : Nat) (hj : j < 4) (hs : 2 ≤ (zG j).1) : Met l y_Ru_requireKey ws_Ru_requireKey1V rm_Ru_requireKey1V (va_Pc ([.ref (aw_c ad j 0)] : List Value) (ag_B D g N0 (az_Sh g ad zG zO zX zY zA zB zM zI zL zK zN zF zQ))) (va_Qv (fun (_ : Unit) => True) (fun (_ : Unit) t => ag_H D N0 (az_Sh g ad zG zO zX zY zA zB zM zI zL zK zN zF zQ) t.heap) (aw_Z N0)) 0 0 (aw_Z N0) := by
  refine Met.ofW (cc := b_Ru_requireKey) (maxL := 1) (ret := none) (by decide) rfl ?_
  intro p e s m args below meth c s₁ B hml hv
  obtain ⟨rfl, ⟨L, hP, hD, hSh⟩, hU⟩ := hv
  have hx := B.exec
  have hb := B.bytes
  have hr := B.returns
  have hG : ∀ w ∈ aw_G, w.before _ s = true := fun w h => atoms_spec (ws := ws_Ru_requireKey1V) B.pre w (List.mem_cons_of_mem _ h)
  have hown : s.vm.findClass "RuleCiphers" = some m.cls := findClass_of_methodNamed B.named
  have hlocks := B.notSynchronized
  have hE := hU.1
  have hK := hE.1
  have hN := hE.2.1
  have hS : va_S (aw_Z N0) s.heap s.heap [] := va_S.rf
  have hl := lv_entry ([.ref (aw_c ad j 0)] : List Value) (n := 1) (Nat.le_of_ble_eq_true rfl)
  rw [lg_entry_eq]
  generalize (lg_sl ([.ref (aw_c ad j 0)] : List Value) ++ List.replicate (1 - (lg_sl ([.ref (aw_c ad j 0)] : List Value)).length) Slot.unset).toArray = ls at hl ⊢
  have hl : lv_has ls 1 [(0, .ref (aw_c ad j 0))] := hl
  refine lv_aload_n hx hb d_Ru_requireKey_0 rfl (lv_at hl 0 rfl) ?_
  obtain ⟨hsd2, he1⟩ := zr_C0 hSh hj
  have hg := hSh.2.2.2.2.1 j hj
  refine va_get (C := R_Cx) (T := T_Cx) (N := 10) (v := .int (nI ((zG j).1))) hx hb hG in_Cx hown hK hP (3 + 16 * j + 0) he1 rfl 2 (by decide) (hG _ gw_1_57) (fun _ h => h) rfl d_Ru_requireKey_1 ?_
  clear he1
  refine lv_iconst (v := nI 2) hx hb d_Ru_requireKey_4 (by decide +kernel) ?_
  refine lv_icmp_eq (tgt := 26) hx hb d_Ru_requireKey_5 (by decide) (fun hb3 => ?_) (fun hb3 => ?_)
  · have nhb3 : (zG j).1 = 2 := (nI_eq (by omega) (by omega)).mp hb3
    exact W.vret hx hb hr (fun t ht hW => ⟨⟨(), rfl, trivial, ag_Hr ht hP hD hSh⟩, hS.F ht⟩) hS.2.2 d_Ru_requireKey_26
  · have nhb3 : ¬ (zG j).1 = 2 := fun z => absurd ((nI_eq (by omega) (by omega)).mpr z) hb3
    refine lv_aload_n hx hb d_Ru_requireKey_8 rfl (lv_at hl 0 rfl) ?_
    obtain ⟨hsd5, he4⟩ := zr_C0 hSh hj
    have hg := hSh.2.2.2.2.1 j hj
    refine va_get (C := R_Cx) (T := T_Cx) (N := 10) (v := .int (nI ((zG j).1))) hx hb hG in_Cx hown hK hP (3 + 16 * j + 0) he4 rfl 2 (by decide) (hG _ gw_1_57) (fun _ h => h) rfl d_Ru_requireKey_9 ?_
    clear he4
    refine lv_iconst (v := nI 3) hx hb d_Ru_requireKey_12 (by decide +kernel) ?_
    refine lv_icmp_eq (tgt := 26) hx hb d_Ru_requireKey_13 (by decide) (fun _ => ?_) (fun h => absurd (show nI ((zG j).1) = nI 3 from (nI_eq (by omega) (by omega)).mpr (by omega)) h)
    exact W.vret hx hb hr (fun t ht hW => ⟨⟨(), rfl, trivial, ag_Hr ht hP hD hSh⟩, hS.F ht⟩) hS.2.2 d_Ru_requireKey_26
abbrev ws_Ru_requireKeyXV : List Cond := Cond.code y_Ru_requireKey b_Ru_requireKey 1 none :: aw_G
abbrev rm_Ru_requireKeyXV : Room := { frames := 6, cells := 1, slots := 6, locals := 90 }
set_option maxHeartbeats 4000000 in
set_option maxRecDepth 100000 in
theorem k_Ru_requireKeyXV (l : Launch) (hst : l.stackTraces = false) (D : va_G) (g : Nat → ClassId) (ad : Nat → Nat) (N0 : Nat) (zG : Nat → Nat × Nat) (zO : Nat → Nat) (zX : Nat → Nat → Int64) (zY : Nat → Nat → Int32) (zA : Nat → Nat → Nat → Int32) (zB : Nat → Int32) (zM : Nat → Nat × Nat) (zI : Nat → Nat → Int32) (zL : Nat → Nat → Int64) (zK : Int32) (zN : Nat) (zF : Int32) (zQ : Int64) (j : Nat) (hj : j < 4) (hs : (zG j).1 ≤ 1) : vx_Met l y_Ru_requireKey ws_Ru_requireKeyXV rm_Ru_requireKeyXV (va_Pc ([.ref (aw_c ad j 0)] : List Value) (ag_B D g N0 (az_Sh g ad zG zO zX zY zA zB zM zI zL zK zN zF zQ))) (va_Qv (fun (_ : Unit) => False) (fun (_ : Unit) _ => True) (aw_Z N0)) (vx_X (fun (_ : Unit) => True) (fun E (_ : Unit) t => E = "java/lang/IllegalStateException" ∧ ag_H D N0 (az_Sh g ad zG zO zX zY zA zB zM zI zL zK zN zF zQ) t.heap) (aw_Z N0)) 1 6 (aw_Z N0) := by
  refine vx_ofW (cc := b_Ru_requireKey) (maxL := 1) (ret := none) (by decide) rfl ?_
  intro p e s m args below meth c s₁ B hml hex hv
  obtain ⟨rfl, ⟨L, hP, hD, hSh⟩, hU⟩ := hv
  have hx := B.exec
  have hb := B.bytes
  have hr := B.returns
  have hG : ∀ w ∈ aw_G, w.before _ s = true := fun w h => atoms_spec (ws := ws_Ru_requireKeyXV) B.pre w (List.mem_cons_of_mem _ h)
  have hown : s.vm.findClass "RuleCiphers" = some m.cls := findClass_of_methodNamed B.named
  have hlocks := B.notSynchronized
  have hE := hU.1
  have hK := hE.1
  have hN := hE.2.1
  have hS : va_S (aw_Z N0) s.heap s.heap [] := va_S.rf
  have hl := lv_entry ([.ref (aw_c ad j 0)] : List Value) (n := 1) (Nat.le_of_ble_eq_true rfl)
  rw [lg_entry_eq]
  generalize (lg_sl ([.ref (aw_c ad j 0)] : List Value) ++ List.replicate (1 - (lg_sl ([.ref (aw_c ad j 0)] : List Value)).length) Slot.unset).toArray = ls at hl ⊢
  have hl : lv_has ls 1 [(0, .ref (aw_c ad j 0))] := hl
  refine lv_aload_n hx hb d_Ru_requireKey_0 rfl (lv_at hl 0 rfl) ?_
  obtain ⟨hsd2, he1⟩ := zr_C0 hSh hj
  have hg := hSh.2.2.2.2.1 j hj
  refine va_get (C := R_Cx) (T := T_Cx) (N := 10) (v := .int (nI ((zG j).1))) hx hb hG in_Cx hown hK hP (3 + 16 * j + 0) he1 rfl 2 (by decide) (hG _ gw_1_57) (fun _ h => h) rfl d_Ru_requireKey_1 ?_
  clear he1
  refine lv_iconst (v := nI 2) hx hb d_Ru_requireKey_4 (by decide +kernel) ?_
  refine lv_icmp_eq (tgt := 26) hx hb d_Ru_requireKey_5 (by decide) (fun h => absurd h (show ¬ nI ((zG j).1) = nI 2 from fun h9 => absurd ((nI_eq (by omega) (by omega)).mp h9) (by omega))) (fun _ => ?_)
  refine lv_aload_n hx hb d_Ru_requireKey_8 rfl (lv_at hl 0 rfl) ?_
  obtain ⟨hsd4, he3⟩ := zr_C0 hSh hj
  have hg := hSh.2.2.2.2.1 j hj
  refine va_get (C := R_Cx) (T := T_Cx) (N := 10) (v := .int (nI ((zG j).1))) hx hb hG in_Cx hown hK hP (3 + 16 * j + 0) he3 rfl 2 (by decide) (hG _ gw_1_57) (fun _ h => h) rfl d_Ru_requireKey_9 ?_
  clear he3
  refine lv_iconst (v := nI 3) hx hb d_Ru_requireKey_12 (by decide +kernel) ?_
  refine lv_icmp_eq (tgt := 26) hx hb d_Ru_requireKey_13 (by decide) (fun h => absurd h (show ¬ nI ((zG j).1) = nI 3 from fun h9 => absurd ((nI_eq (by omega) (by omega)).mp h9) (by omega))) (fun _ => ?_)
  obtain ⟨sa5, hsa5⟩ := hU.2.1.2.2 (117, "the context has no key") (by decide)
  exact ag_thr hx hb hst (names := ["java/lang/RuntimeException", "java/lang/Exception"]) hown (by decide +kernel) (by decide +kernel) (hG _ gw_3_59) (hG _ gw_0_16) hsa5 (aw_hat_Ru_39 hG hE) (by decide +kernel) hU hP hD hSh hS (by rw [hml]; exact hl.1) d_Ru_requireKey_16 d_Ru_requireKey_19 d_Ru_requireKey_20 d_Ru_requireKey_22 d_Ru_requireKey_25 (fun x h => (hex x h).elim) (by decide) (Nat.le_of_ble_eq_true rfl) (Nat.le_of_ble_eq_true rfl) (Nat.le_of_ble_eq_true rfl) hlocks (Nat.le_of_ble_eq_true rfl) (Nat.le_of_ble_eq_true rfl)
abbrev ws_Ru_requireMode4V : List Cond := Cond.code y_Ru_requireMode b_Ru_requireMode 2 none :: aw_G
abbrev rm_Ru_requireMode4V : Room := { frames := 0, cells := 0, slots := 0, locals := 0 }
set_option maxHeartbeats 4000000 in
set_option maxRecDepth 100000 in
theorem k_Ru_requireMode4V (l : Launch) (D : va_G) (g : Nat → ClassId) (ad : Nat → Nat) (N0 : Nat) (zG : Nat → Nat × Nat) (zO : Nat → Nat) (zX : Nat → Nat → Int64) (zY : Nat → Nat → Int32) (zA : Nat → Nat → Nat → Int32) (zB : Nat → Int32) (zM : Nat → Nat × Nat) (zI : Nat → Nat → Int32) (zL : Nat → Nat → Int64) (zK : Int32) (zN : Nat) (zF : Int32) (zQ : Int64) (j : Nat) (hj : j < 4) (hs : (zG j).1 = 3 ∧ (zG j).2 = 4) : Met l y_Ru_requireMode ws_Ru_requireMode4V rm_Ru_requireMode4V (va_Pc ([.ref (aw_c ad j 0), .int (nI 4)] : List Value) (ag_B D g N0 (az_Sh g ad zG zO zX zY zA zB zM zI zL zK zN zF zQ))) (va_Qv (fun (_ : Unit) => True) (fun (_ : Unit) t => ag_H D N0 (az_Sh g ad zG zO zX zY zA zB zM zI zL zK zN zF zQ) t.heap) (aw_Z N0)) 0 0 (aw_Z N0) := by
  refine Met.ofW (cc := b_Ru_requireMode) (maxL := 2) (ret := none) (by decide) rfl ?_
  intro p e s m args below meth c s₁ B hml hv
  obtain ⟨rfl, ⟨L, hP, hD, hSh⟩, hU⟩ := hv
  have hx := B.exec
  have hb := B.bytes
  have hr := B.returns
  have hG : ∀ w ∈ aw_G, w.before _ s = true := fun w h => atoms_spec (ws := ws_Ru_requireMode4V) B.pre w (List.mem_cons_of_mem _ h)
  have hown : s.vm.findClass "RuleCiphers" = some m.cls := findClass_of_methodNamed B.named
  have hlocks := B.notSynchronized
  have hE := hU.1
  have hK := hE.1
  have hN := hE.2.1
  have hS : va_S (aw_Z N0) s.heap s.heap [] := va_S.rf
  have hl := lv_entry ([.ref (aw_c ad j 0), .int (nI 4)] : List Value) (n := 2) (Nat.le_of_ble_eq_true rfl)
  rw [lg_entry_eq]
  generalize (lg_sl ([.ref (aw_c ad j 0), .int (nI 4)] : List Value) ++ List.replicate (2 - (lg_sl ([.ref (aw_c ad j 0), .int (nI 4)] : List Value)).length) Slot.unset).toArray = ls at hl ⊢
  have hl : lv_has ls 2 [(0, .ref (aw_c ad j 0)), (1, .int (nI 4))] := hl
  refine lv_aload_n hx hb d_Ru_requireMode_0 rfl (lv_at hl 0 rfl) ?_
  obtain ⟨hsd2, he1⟩ := zr_C0 hSh hj
  have hg := hSh.2.2.2.2.1 j hj
  refine va_get (C := R_Cx) (T := T_Cx) (N := 10) (v := .int (nI ((zG j).1))) hx hb hG in_Cx hown hK hP (3 + 16 * j + 0) he1 rfl 2 (by decide) (hG _ gw_1_57) (fun _ h => h) rfl d_Ru_requireMode_1 ?_
  clear he1
  refine lv_iconst (v := nI 3) hx hb d_Ru_requireMode_4 (by decide +kernel) ?_
  refine lv_icmp_ne (tgt := 16) hx hb d_Ru_requireMode_5 (by decide) (fun h => absurd (show nI ((zG j).1) = nI 3 from (nI_eq (by omega) (by omega)).mpr (by omega)) h) (fun _ => ?_)
  refine lv_aload_n hx hb d_Ru_requireMode_8 rfl (lv_at hl 0 rfl) ?_
  obtain ⟨hsd4, he3⟩ := zr_C0 hSh hj
  have hg := hSh.2.2.2.2.1 j hj
  refine va_get (C := R_Cx) (T := T_Cx) (N := 10) (v := .int (nI ((zG j).2))) hx hb hG in_Cx hown hK hP (3 + 16 * j + 0) he3 rfl 3 (by decide) (hG _ gw_1_59) (fun _ h => h) rfl d_Ru_requireMode_9 ?_
  clear he3
  refine lv_iload_n hx hb d_Ru_requireMode_12 rfl (lv_at hl 1 rfl) ?_
  refine lv_icmp_eq (tgt := 26) hx hb d_Ru_requireMode_13 (by decide) (fun _ => ?_) (fun h => absurd (show nI ((zG j).2) = nI 4 from (nI_eq (by omega) (by omega)).mpr (by omega)) h)
  exact W.vret hx hb hr (fun t ht hW => ⟨⟨(), rfl, trivial, ag_Hr ht hP hD hSh⟩, hS.F ht⟩) hS.2.2 d_Ru_requireMode_26
abbrev ws_Ru_requireMode4XV : List Cond := Cond.code y_Ru_requireMode b_Ru_requireMode 2 none :: aw_G
abbrev rm_Ru_requireMode4XV : Room := { frames := 6, cells := 1, slots := 6, locals := 90 }
set_option maxHeartbeats 4000000 in
set_option maxRecDepth 100000 in
theorem k_Ru_requireMode4XV (l : Launch) (hst : l.stackTraces = false) (D : va_G) (g : Nat → ClassId) (ad : Nat → Nat) (N0 : Nat) (zG : Nat → Nat × Nat) (zO : Nat → Nat) (zX : Nat → Nat → Int64) (zY : Nat → Nat → Int32) (zA : Nat → Nat → Nat → Int32) (zB : Nat → Int32) (zM : Nat → Nat × Nat) (zI : Nat → Nat → Int32) (zL : Nat → Nat → Int64) (zK : Int32) (zN : Nat) (zF : Int32) (zQ : Int64) (j : Nat) (hj : j < 4) (hs : (zG j).1 ≤ 2 ∨ ((zG j).1 = 3 ∧ (zG j).2 ≠ 4)) : vx_Met l y_Ru_requireMode ws_Ru_requireMode4XV rm_Ru_requireMode4XV (va_Pc ([.ref (aw_c ad j 0), .int (nI 4)] : List Value) (ag_B D g N0 (az_Sh g ad zG zO zX zY zA zB zM zI zL zK zN zF zQ))) (va_Qv (fun (_ : Unit) => False) (fun (_ : Unit) _ => True) (aw_Z N0)) (vx_X (fun (_ : Unit) => True) (fun E (_ : Unit) t => E = "java/lang/IllegalStateException" ∧ ag_H D N0 (az_Sh g ad zG zO zX zY zA zB zM zI zL zK zN zF zQ) t.heap) (aw_Z N0)) 1 6 (aw_Z N0) := by
  refine vx_ofW (cc := b_Ru_requireMode) (maxL := 2) (ret := none) (by decide) rfl ?_
  intro p e s m args below meth c s₁ B hml hex hv
  obtain ⟨rfl, ⟨L, hP, hD, hSh⟩, hU⟩ := hv
  have hx := B.exec
  have hb := B.bytes
  have hr := B.returns
  have hG : ∀ w ∈ aw_G, w.before _ s = true := fun w h => atoms_spec (ws := ws_Ru_requireMode4XV) B.pre w (List.mem_cons_of_mem _ h)
  have hown : s.vm.findClass "RuleCiphers" = some m.cls := findClass_of_methodNamed B.named
  have hlocks := B.notSynchronized
  have hE := hU.1
  have hK := hE.1
  have hN := hE.2.1
  have hS : va_S (aw_Z N0) s.heap s.heap [] := va_S.rf
  have hl := lv_entry ([.ref (aw_c ad j 0), .int (nI 4)] : List Value) (n := 2) (Nat.le_of_ble_eq_true rfl)
  rw [lg_entry_eq]
  generalize (lg_sl ([.ref (aw_c ad j 0), .int (nI 4)] : List Value) ++ List.replicate (2 - (lg_sl ([.ref (aw_c ad j 0), .int (nI 4)] : List Value)).length) Slot.unset).toArray = ls at hl ⊢
  have hl : lv_has ls 2 [(0, .ref (aw_c ad j 0)), (1, .int (nI 4))] := hl
  rcases hs with hs | hs
  · refine lv_aload_n hx hb d_Ru_requireMode_0 rfl (lv_at hl 0 rfl) ?_
    obtain ⟨hsd2, he1⟩ := zr_C0 hSh hj
    have hg := hSh.2.2.2.2.1 j hj
    refine va_get (C := R_Cx) (T := T_Cx) (N := 10) (v := .int (nI ((zG j).1))) hx hb hG in_Cx hown hK hP (3 + 16 * j + 0) he1 rfl 2 (by decide) (hG _ gw_1_57) (fun _ h => h) rfl d_Ru_requireMode_1 ?_
    clear he1
    refine lv_iconst (v := nI 3) hx hb d_Ru_requireMode_4 (by decide +kernel) ?_
    refine lv_icmp_ne (tgt := 16) hx hb d_Ru_requireMode_5 (by decide) (fun _ => ?_) (fun h => absurd h (show ¬ nI ((zG j).1) = nI 3 from fun h9 => absurd ((nI_eq (by omega) (by omega)).mp h9) (by omega)))
    obtain ⟨sa3, hsa3⟩ := hU.2.1.2.2 (119, "the context is not set to the mode of this call") (by decide)
    exact ag_thr hx hb hst (names := ["java/lang/RuntimeException", "java/lang/Exception"]) hown (by decide +kernel) (by decide +kernel) (hG _ gw_3_59) (hG _ gw_0_16) hsa3 (aw_hat_Ru_39 hG hE) (by decide +kernel) hU hP hD hSh hS (by rw [hml]; exact hl.1) d_Ru_requireMode_16 d_Ru_requireMode_19 d_Ru_requireMode_20 d_Ru_requireMode_22 d_Ru_requireMode_25 (fun x h => (hex x h).elim) (by decide) (Nat.le_of_ble_eq_true rfl) (Nat.le_of_ble_eq_true rfl) (Nat.le_of_ble_eq_true rfl) hlocks (Nat.le_of_ble_eq_true rfl) (Nat.le_of_ble_eq_true rfl)
  · refine lv_aload_n hx hb d_Ru_requireMode_0 rfl (lv_at hl 0 rfl) ?_
    obtain ⟨hsd5, he4⟩ := zr_C0 hSh hj
    have hg := hSh.2.2.2.2.1 j hj
    refine va_get (C := R_Cx) (T := T_Cx) (N := 10) (v := .int (nI ((zG j).1))) hx hb hG in_Cx hown hK hP (3 + 16 * j + 0) he4 rfl 2 (by decide) (hG _ gw_1_57) (fun _ h => h) rfl d_Ru_requireMode_1 ?_
    clear he4
    refine lv_iconst (v := nI 3) hx hb d_Ru_requireMode_4 (by decide +kernel) ?_
    refine lv_icmp_ne (tgt := 16) hx hb d_Ru_requireMode_5 (by decide) (fun h => absurd (show nI ((zG j).1) = nI 3 from (nI_eq (by omega) (by omega)).mpr (by omega)) h) (fun _ => ?_)
    refine lv_aload_n hx hb d_Ru_requireMode_8 rfl (lv_at hl 0 rfl) ?_
    obtain ⟨hsd7, he6⟩ := zr_C0 hSh hj
    have hg := hSh.2.2.2.2.1 j hj
    refine va_get (C := R_Cx) (T := T_Cx) (N := 10) (v := .int (nI ((zG j).2))) hx hb hG in_Cx hown hK hP (3 + 16 * j + 0) he6 rfl 3 (by decide) (hG _ gw_1_59) (fun _ h => h) rfl d_Ru_requireMode_9 ?_
    clear he6
    refine lv_iload_n hx hb d_Ru_requireMode_12 rfl (lv_at hl 1 rfl) ?_
    refine lv_icmp_eq (tgt := 26) hx hb d_Ru_requireMode_13 (by decide) (fun h => absurd h (show ¬ nI ((zG j).2) = nI 4 from fun h9 => absurd ((nI_eq (by omega) (by omega)).mp h9) (by omega))) (fun _ => ?_)
    obtain ⟨sa8, hsa8⟩ := hU.2.1.2.2 (119, "the context is not set to the mode of this call") (by decide)
    exact ag_thr hx hb hst (names := ["java/lang/RuntimeException", "java/lang/Exception"]) hown (by decide +kernel) (by decide +kernel) (hG _ gw_3_59) (hG _ gw_0_16) hsa8 (aw_hat_Ru_39 hG hE) (by decide +kernel) hU hP hD hSh hS (by rw [hml]; exact hl.1) d_Ru_requireMode_16 d_Ru_requireMode_19 d_Ru_requireMode_20 d_Ru_requireMode_22 d_Ru_requireMode_25 (fun x h => (hex x h).elim) (by decide) (Nat.le_of_ble_eq_true rfl) (Nat.le_of_ble_eq_true rfl) (Nat.le_of_ble_eq_true rfl) hlocks (Nat.le_of_ble_eq_true rfl) (Nat.le_of_ble_eq_true rfl)
abbrev ws_Ru_requireMode5V : List Cond := Cond.code y_Ru_requireMode b_Ru_requireMode 2 none :: aw_G
abbrev rm_Ru_requireMode5V : Room := { frames := 0, cells := 0, slots := 0, locals := 0 }
set_option maxHeartbeats 4000000 in
set_option maxRecDepth 100000 in
theorem k_Ru_requireMode5V (l : Launch) (D : va_G) (g : Nat → ClassId) (ad : Nat → Nat) (N0 : Nat) (zG : Nat → Nat × Nat) (zO : Nat → Nat) (zX : Nat → Nat → Int64) (zY : Nat → Nat → Int32) (zA : Nat → Nat → Nat → Int32) (zB : Nat → Int32) (zM : Nat → Nat × Nat) (zI : Nat → Nat → Int32) (zL : Nat → Nat → Int64) (zK : Int32) (zN : Nat) (zF : Int32) (zQ : Int64) (j : Nat) (hj : j < 4) (hs : (zG j).1 = 3 ∧ (zG j).2 = 5) : Met l y_Ru_requireMode ws_Ru_requireMode5V rm_Ru_requireMode5V (va_Pc ([.ref (aw_c ad j 0), .int (nI 5)] : List Value) (ag_B D g N0 (az_Sh g ad zG zO zX zY zA zB zM zI zL zK zN zF zQ))) (va_Qv (fun (_ : Unit) => True) (fun (_ : Unit) t => ag_H D N0 (az_Sh g ad zG zO zX zY zA zB zM zI zL zK zN zF zQ) t.heap) (aw_Z N0)) 0 0 (aw_Z N0) := by
  refine Met.ofW (cc := b_Ru_requireMode) (maxL := 2) (ret := none) (by decide) rfl ?_
  intro p e s m args below meth c s₁ B hml hv
  obtain ⟨rfl, ⟨L, hP, hD, hSh⟩, hU⟩ := hv
  have hx := B.exec
  have hb := B.bytes
  have hr := B.returns
  have hG : ∀ w ∈ aw_G, w.before _ s = true := fun w h => atoms_spec (ws := ws_Ru_requireMode5V) B.pre w (List.mem_cons_of_mem _ h)
  have hown : s.vm.findClass "RuleCiphers" = some m.cls := findClass_of_methodNamed B.named
  have hlocks := B.notSynchronized
  have hE := hU.1
  have hK := hE.1
  have hN := hE.2.1
  have hS : va_S (aw_Z N0) s.heap s.heap [] := va_S.rf
  have hl := lv_entry ([.ref (aw_c ad j 0), .int (nI 5)] : List Value) (n := 2) (Nat.le_of_ble_eq_true rfl)
  rw [lg_entry_eq]
  generalize (lg_sl ([.ref (aw_c ad j 0), .int (nI 5)] : List Value) ++ List.replicate (2 - (lg_sl ([.ref (aw_c ad j 0), .int (nI 5)] : List Value)).length) Slot.unset).toArray = ls at hl ⊢
  have hl : lv_has ls 2 [(0, .ref (aw_c ad j 0)), (1, .int (nI 5))] := hl
  refine lv_aload_n hx hb d_Ru_requireMode_0 rfl (lv_at hl 0 rfl) ?_
  obtain ⟨hsd2, he1⟩ := zr_C0 hSh hj
  have hg := hSh.2.2.2.2.1 j hj
  refine va_get (C := R_Cx) (T := T_Cx) (N := 10) (v := .int (nI ((zG j).1))) hx hb hG in_Cx hown hK hP (3 + 16 * j + 0) he1 rfl 2 (by decide) (hG _ gw_1_57) (fun _ h => h) rfl d_Ru_requireMode_1 ?_
  clear he1
  refine lv_iconst (v := nI 3) hx hb d_Ru_requireMode_4 (by decide +kernel) ?_
  refine lv_icmp_ne (tgt := 16) hx hb d_Ru_requireMode_5 (by decide) (fun h => absurd (show nI ((zG j).1) = nI 3 from (nI_eq (by omega) (by omega)).mpr (by omega)) h) (fun _ => ?_)
  refine lv_aload_n hx hb d_Ru_requireMode_8 rfl (lv_at hl 0 rfl) ?_
  obtain ⟨hsd4, he3⟩ := zr_C0 hSh hj
  have hg := hSh.2.2.2.2.1 j hj
  refine va_get (C := R_Cx) (T := T_Cx) (N := 10) (v := .int (nI ((zG j).2))) hx hb hG in_Cx hown hK hP (3 + 16 * j + 0) he3 rfl 3 (by decide) (hG _ gw_1_59) (fun _ h => h) rfl d_Ru_requireMode_9 ?_
  clear he3
  refine lv_iload_n hx hb d_Ru_requireMode_12 rfl (lv_at hl 1 rfl) ?_
  refine lv_icmp_eq (tgt := 26) hx hb d_Ru_requireMode_13 (by decide) (fun _ => ?_) (fun h => absurd (show nI ((zG j).2) = nI 5 from (nI_eq (by omega) (by omega)).mpr (by omega)) h)
  exact W.vret hx hb hr (fun t ht hW => ⟨⟨(), rfl, trivial, ag_Hr ht hP hD hSh⟩, hS.F ht⟩) hS.2.2 d_Ru_requireMode_26
abbrev ws_Ru_requireMode5XV : List Cond := Cond.code y_Ru_requireMode b_Ru_requireMode 2 none :: aw_G
abbrev rm_Ru_requireMode5XV : Room := { frames := 6, cells := 1, slots := 6, locals := 90 }
set_option maxHeartbeats 4000000 in
set_option maxRecDepth 100000 in
theorem k_Ru_requireMode5XV (l : Launch) (hst : l.stackTraces = false) (D : va_G) (g : Nat → ClassId) (ad : Nat → Nat) (N0 : Nat) (zG : Nat → Nat × Nat) (zO : Nat → Nat) (zX : Nat → Nat → Int64) (zY : Nat → Nat → Int32) (zA : Nat → Nat → Nat → Int32) (zB : Nat → Int32) (zM : Nat → Nat × Nat) (zI : Nat → Nat → Int32) (zL : Nat → Nat → Int64) (zK : Int32) (zN : Nat) (zF : Int32) (zQ : Int64) (j : Nat) (hj : j < 4) (hs : (zG j).1 ≤ 2 ∨ ((zG j).1 = 3 ∧ (zG j).2 ≠ 5)) : vx_Met l y_Ru_requireMode ws_Ru_requireMode5XV rm_Ru_requireMode5XV (va_Pc ([.ref (aw_c ad j 0), .int (nI 5)] : List Value) (ag_B D g N0 (az_Sh g ad zG zO zX zY zA zB zM zI zL zK zN zF zQ))) (va_Qv (fun (_ : Unit) => False) (fun (_ : Unit) _ => True) (aw_Z N0)) (vx_X (fun (_ : Unit) => True) (fun E (_ : Unit) t => E = "java/lang/IllegalStateException" ∧ ag_H D N0 (az_Sh g ad zG zO zX zY zA zB zM zI zL zK zN zF zQ) t.heap) (aw_Z N0)) 1 6 (aw_Z N0) := by
  refine vx_ofW (cc := b_Ru_requireMode) (maxL := 2) (ret := none) (by decide) rfl ?_
  intro p e s m args below meth c s₁ B hml hex hv
  obtain ⟨rfl, ⟨L, hP, hD, hSh⟩, hU⟩ := hv
  have hx := B.exec
  have hb := B.bytes
  have hr := B.returns
  have hG : ∀ w ∈ aw_G, w.before _ s = true := fun w h => atoms_spec (ws := ws_Ru_requireMode5XV) B.pre w (List.mem_cons_of_mem _ h)
  have hown : s.vm.findClass "RuleCiphers" = some m.cls := findClass_of_methodNamed B.named
  have hlocks := B.notSynchronized
  have hE := hU.1
  have hK := hE.1
  have hN := hE.2.1
  have hS : va_S (aw_Z N0) s.heap s.heap [] := va_S.rf
  have hl := lv_entry ([.ref (aw_c ad j 0), .int (nI 5)] : List Value) (n := 2) (Nat.le_of_ble_eq_true rfl)
  rw [lg_entry_eq]
  generalize (lg_sl ([.ref (aw_c ad j 0), .int (nI 5)] : List Value) ++ List.replicate (2 - (lg_sl ([.ref (aw_c ad j 0), .int (nI 5)] : List Value)).length) Slot.unset).toArray = ls at hl ⊢
  have hl : lv_has ls 2 [(0, .ref (aw_c ad j 0)), (1, .int (nI 5))] := hl
  rcases hs with hs | hs
  · refine lv_aload_n hx hb d_Ru_requireMode_0 rfl (lv_at hl 0 rfl) ?_
    obtain ⟨hsd2, he1⟩ := zr_C0 hSh hj
    have hg := hSh.2.2.2.2.1 j hj
    refine va_get (C := R_Cx) (T := T_Cx) (N := 10) (v := .int (nI ((zG j).1))) hx hb hG in_Cx hown hK hP (3 + 16 * j + 0) he1 rfl 2 (by decide) (hG _ gw_1_57) (fun _ h => h) rfl d_Ru_requireMode_1 ?_
    clear he1
    refine lv_iconst (v := nI 3) hx hb d_Ru_requireMode_4 (by decide +kernel) ?_
    refine lv_icmp_ne (tgt := 16) hx hb d_Ru_requireMode_5 (by decide) (fun _ => ?_) (fun h => absurd h (show ¬ nI ((zG j).1) = nI 3 from fun h9 => absurd ((nI_eq (by omega) (by omega)).mp h9) (by omega)))
    obtain ⟨sa3, hsa3⟩ := hU.2.1.2.2 (119, "the context is not set to the mode of this call") (by decide)
    exact ag_thr hx hb hst (names := ["java/lang/RuntimeException", "java/lang/Exception"]) hown (by decide +kernel) (by decide +kernel) (hG _ gw_3_59) (hG _ gw_0_16) hsa3 (aw_hat_Ru_39 hG hE) (by decide +kernel) hU hP hD hSh hS (by rw [hml]; exact hl.1) d_Ru_requireMode_16 d_Ru_requireMode_19 d_Ru_requireMode_20 d_Ru_requireMode_22 d_Ru_requireMode_25 (fun x h => (hex x h).elim) (by decide) (Nat.le_of_ble_eq_true rfl) (Nat.le_of_ble_eq_true rfl) (Nat.le_of_ble_eq_true rfl) hlocks (Nat.le_of_ble_eq_true rfl) (Nat.le_of_ble_eq_true rfl)
  · refine lv_aload_n hx hb d_Ru_requireMode_0 rfl (lv_at hl 0 rfl) ?_
    obtain ⟨hsd5, he4⟩ := zr_C0 hSh hj
    have hg := hSh.2.2.2.2.1 j hj
    refine va_get (C := R_Cx) (T := T_Cx) (N := 10) (v := .int (nI ((zG j).1))) hx hb hG in_Cx hown hK hP (3 + 16 * j + 0) he4 rfl 2 (by decide) (hG _ gw_1_57) (fun _ h => h) rfl d_Ru_requireMode_1 ?_
    clear he4
    refine lv_iconst (v := nI 3) hx hb d_Ru_requireMode_4 (by decide +kernel) ?_
    refine lv_icmp_ne (tgt := 16) hx hb d_Ru_requireMode_5 (by decide) (fun h => absurd (show nI ((zG j).1) = nI 3 from (nI_eq (by omega) (by omega)).mpr (by omega)) h) (fun _ => ?_)
    refine lv_aload_n hx hb d_Ru_requireMode_8 rfl (lv_at hl 0 rfl) ?_
    obtain ⟨hsd7, he6⟩ := zr_C0 hSh hj
    have hg := hSh.2.2.2.2.1 j hj
    refine va_get (C := R_Cx) (T := T_Cx) (N := 10) (v := .int (nI ((zG j).2))) hx hb hG in_Cx hown hK hP (3 + 16 * j + 0) he6 rfl 3 (by decide) (hG _ gw_1_59) (fun _ h => h) rfl d_Ru_requireMode_9 ?_
    clear he6
    refine lv_iload_n hx hb d_Ru_requireMode_12 rfl (lv_at hl 1 rfl) ?_
    refine lv_icmp_eq (tgt := 26) hx hb d_Ru_requireMode_13 (by decide) (fun h => absurd h (show ¬ nI ((zG j).2) = nI 5 from fun h9 => absurd ((nI_eq (by omega) (by omega)).mp h9) (by omega))) (fun _ => ?_)
    obtain ⟨sa8, hsa8⟩ := hU.2.1.2.2 (119, "the context is not set to the mode of this call") (by decide)
    exact ag_thr hx hb hst (names := ["java/lang/RuntimeException", "java/lang/Exception"]) hown (by decide +kernel) (by decide +kernel) (hG _ gw_3_59) (hG _ gw_0_16) hsa8 (aw_hat_Ru_39 hG hE) (by decide +kernel) hU hP hD hSh hS (by rw [hml]; exact hl.1) d_Ru_requireMode_16 d_Ru_requireMode_19 d_Ru_requireMode_20 d_Ru_requireMode_22 d_Ru_requireMode_25 (fun x h => (hex x h).elim) (by decide) (Nat.le_of_ble_eq_true rfl) (Nat.le_of_ble_eq_true rfl) (Nat.le_of_ble_eq_true rfl) hlocks (Nat.le_of_ble_eq_true rfl) (Nat.le_of_ble_eq_true rfl)
abbrev ws_Ru_requirePlaceXV : List Cond := Cond.code y_Ru_requirePlace b_Ru_requirePlace 1 none :: aw_G
abbrev rm_Ru_requirePlaceXV : Room := { frames := 6, cells := 1, slots := 6, locals := 90 }
set_option maxHeartbeats 4000000 in
set_option maxRecDepth 100000 in
theorem k_Ru_requirePlaceXV (l : Launch) (hst : l.stackTraces = false) (D : va_G) (g : Nat → ClassId) (ad : Nat → Nat) (N0 : Nat) (zG : Nat → Nat × Nat) (zO : Nat → Nat) (zX : Nat → Nat → Int64) (zY : Nat → Nat → Int32) (zA : Nat → Nat → Nat → Int32) (zB : Nat → Int32) (zM : Nat → Nat × Nat) (zI : Nat → Nat → Int32) (zL : Nat → Nat → Int64) (zK : Int32) (zN : Nat) (zF : Int32) (zQ : Int64) (p0 : Int32) (hc : p0 < 0 ∨ (¬ p0 < 0 ∧ ¬ p0 < nI 64)) : vx_Met l y_Ru_requirePlace ws_Ru_requirePlaceXV rm_Ru_requirePlaceXV (va_Pc ([.int p0] : List Value) (ag_B D g N0 (az_Sh g ad zG zO zX zY zA zB zM zI zL zK zN zF zQ))) (va_Qv (fun (_ : Unit) => False) (fun (_ : Unit) _ => True) (aw_Z N0)) (vx_X (fun (_ : Unit) => True) (fun E (_ : Unit) t => E = "java/lang/IndexOutOfBoundsException" ∧ ag_H D N0 (az_Sh g ad zG zO zX zY zA zB zM zI zL zK zN zF zQ) t.heap) (aw_Z N0)) 1 6 (aw_Z N0) := by
  refine vx_ofW (cc := b_Ru_requirePlace) (maxL := 1) (ret := none) (by decide) rfl ?_
  intro p e s m args below meth c s₁ B hml hex hv
  obtain ⟨rfl, ⟨L, hP, hD, hSh⟩, hU⟩ := hv
  have hx := B.exec
  have hb := B.bytes
  have hr := B.returns
  have hG : ∀ w ∈ aw_G, w.before _ s = true := fun w h => atoms_spec (ws := ws_Ru_requirePlaceXV) B.pre w (List.mem_cons_of_mem _ h)
  have hown : s.vm.findClass "RuleCiphers" = some m.cls := findClass_of_methodNamed B.named
  have hlocks := B.notSynchronized
  have hE := hU.1
  have hK := hE.1
  have hN := hE.2.1
  have hS : va_S (aw_Z N0) s.heap s.heap [] := va_S.rf
  have hl := lv_entry ([.int p0] : List Value) (n := 1) (Nat.le_of_ble_eq_true rfl)
  rw [lg_entry_eq]
  generalize (lg_sl ([.int p0] : List Value) ++ List.replicate (1 - (lg_sl ([.int p0] : List Value)).length) Slot.unset).toArray = ls at hl ⊢
  have hl : lv_has ls 1 [(0, .int p0)] := hl
  rcases hc with hc | hc
  · refine lv_iload_n hx hb d_Ru_requirePlace_0 rfl (lv_at hl 0 rfl) ?_
    refine lv_if_lt (tgt := 10) hx hb d_Ru_requirePlace_1 (by decide) (fun _ => ?_) (fun h => absurd hc h)
    obtain ⟨sa1, hsa1⟩ := hU.2.1.2.2 (121, "there is no such place in the buffer") (by decide)
    exact ag_thr hx hb hst (names := ["java/lang/RuntimeException", "java/lang/Exception"]) hown (by decide +kernel) (by decide +kernel) (hG _ gw_2_48) (hG _ gw_0_14) hsa1 (aw_hat_Ru_116 hG hE) (by decide +kernel) hU hP hD hSh hS (by rw [hml]; exact hl.1) d_Ru_requirePlace_10 d_Ru_requirePlace_13 d_Ru_requirePlace_14 d_Ru_requirePlace_16 d_Ru_requirePlace_19 (fun x h => (hex x h).elim) (by decide) (Nat.le_of_ble_eq_true rfl) (Nat.le_of_ble_eq_true rfl) (Nat.le_of_ble_eq_true rfl) hlocks (Nat.le_of_ble_eq_true rfl) (Nat.le_of_ble_eq_true rfl)
  · refine lv_iload_n hx hb d_Ru_requirePlace_0 rfl (lv_at hl 0 rfl) ?_
    refine lv_if_lt (tgt := 10) hx hb d_Ru_requirePlace_1 (by decide) (fun h => absurd h hc.1) (fun _ => ?_)
    refine lv_iload_n hx hb d_Ru_requirePlace_4 rfl (lv_at hl 0 rfl) ?_
    refine lv_bipush (v := nI 64) hx hb d_Ru_requirePlace_5 (by decide +kernel) ?_
    refine lv_icmp_lt (tgt := 20) hx hb d_Ru_requirePlace_7 (by decide) (fun h => absurd h hc.2) (fun _ => ?_)
    obtain ⟨sa2, hsa2⟩ := hU.2.1.2.2 (121, "there is no such place in the buffer") (by decide)
    exact ag_thr hx hb hst (names := ["java/lang/RuntimeException", "java/lang/Exception"]) hown (by decide +kernel) (by decide +kernel) (hG _ gw_2_48) (hG _ gw_0_14) hsa2 (aw_hat_Ru_116 hG hE) (by decide +kernel) hU hP hD hSh hS (by rw [hml]; exact hl.1) d_Ru_requirePlace_10 d_Ru_requirePlace_13 d_Ru_requirePlace_14 d_Ru_requirePlace_16 d_Ru_requirePlace_19 (fun x h => (hex x h).elim) (by decide) (Nat.le_of_ble_eq_true rfl) (Nat.le_of_ble_eq_true rfl) (Nat.le_of_ble_eq_true rfl) hlocks (Nat.le_of_ble_eq_true rfl) (Nat.le_of_ble_eq_true rfl)
abbrev ws_Ru_requireInBufferXV : List Cond := Cond.code y_Ru_requireInBuffer b_Ru_requireInBuffer 3 none :: aw_G
abbrev rm_Ru_requireInBufferXV : Room := { frames := 6, cells := 1, slots := 6, locals := 90 }
set_option maxHeartbeats 4000000 in
set_option maxRecDepth 100000 in
theorem k_Ru_requireInBufferXV (l : Launch) (hst : l.stackTraces = false) (D : va_G) (g : Nat → ClassId) (ad : Nat → Nat) (N0 : Nat) (zG : Nat → Nat × Nat) (zO : Nat → Nat) (zX : Nat → Nat → Int64) (zY : Nat → Nat → Int32) (zA : Nat → Nat → Nat → Int32) (zB : Nat → Int32) (zM : Nat → Nat × Nat) (zI : Nat → Nat → Int32) (zL : Nat → Nat → Int64) (zK : Int32) (zN : Nat) (zF : Int32) (zQ : Int64) (fr : Int32) (m0 : Int32) (hi : m0 < 0 ∨ (0 < m0 ∧ fr < 0) ∨ (0 < m0 ∧ ¬ fr < 0 ∧ nI 64 - fr < m0)) : vx_Met l y_Ru_requireInBuffer ws_Ru_requireInBufferXV rm_Ru_requireInBufferXV (va_Pc ([.int fr, .int m0] : List Value) (ag_B D g N0 (az_Sh g ad zG zO zX zY zA zB zM zI zL zK zN zF zQ))) (va_Qv (fun (_ : Unit) => False) (fun (_ : Unit) _ => True) (aw_Z N0)) (vx_X (fun (_ : Unit) => True) (fun E (_ : Unit) t => E = "java/lang/IndexOutOfBoundsException" ∧ ag_H D N0 (az_Sh g ad zG zO zX zY zA zB zM zI zL zK zN zF zQ) t.heap) (aw_Z N0)) 1 6 (aw_Z N0) := by
  refine vx_ofW (cc := b_Ru_requireInBuffer) (maxL := 3) (ret := none) (by decide) rfl ?_
  intro p e s m args below meth c s₁ B hml hex hv
  obtain ⟨rfl, ⟨L, hP, hD, hSh⟩, hU⟩ := hv
  have hx := B.exec
  have hb := B.bytes
  have hr := B.returns
  have hG : ∀ w ∈ aw_G, w.before _ s = true := fun w h => atoms_spec (ws := ws_Ru_requireInBufferXV) B.pre w (List.mem_cons_of_mem _ h)
  have hown : s.vm.findClass "RuleCiphers" = some m.cls := findClass_of_methodNamed B.named
  have hlocks := B.notSynchronized
  have hE := hU.1
  have hK := hE.1
  have hN := hE.2.1
  have hS : va_S (aw_Z N0) s.heap s.heap [] := va_S.rf
  have hl := lv_entry ([.int fr, .int m0] : List Value) (n := 3) (Nat.le_of_ble_eq_true rfl)
  rw [lg_entry_eq]
  generalize (lg_sl ([.int fr, .int m0] : List Value) ++ List.replicate (3 - (lg_sl ([.int fr, .int m0] : List Value)).length) Slot.unset).toArray = ls at hl ⊢
  have hl : lv_has ls 3 [(0, .int fr), (1, .int m0)] := hl
  rcases hi with hi | hi | hi
  · refine lv_iload_n hx hb d_Ru_requireInBuffer_0 rfl (lv_at hl 1 rfl) ?_
    refine lv_if_le (tgt := 20) hx hb d_Ru_requireInBuffer_1 (by decide) (fun _ => ?_) (fun h => absurd (Int32.not_lt.mp (fun h9 => absurd (Int32.lt_trans h9 hi) Int32.lt_irrefl)) h)
    refine lv_iconst (v := nI 0) hx hb d_Ru_requireInBuffer_20 (by decide +kernel) ?_
    refine lv_istore_n hx hb d_Ru_requireInBuffer_21 rfl hl (by decide) rfl (fun ls hl => ?_)
    have hl : lv_has ls 3 [(2, .int (nI 0)), (0, .int fr), (1, .int m0)] := hl
    refine lv_iload_n hx hb d_Ru_requireInBuffer_22 rfl (lv_at hl 2 rfl) ?_
    refine lv_if_lt (tgt := 30) hx hb d_Ru_requireInBuffer_23 (by decide) (fun _ => ?_) (fun h => absurd hi h)
    obtain ⟨sa1, hsa1⟩ := hU.2.1.2.2 (123, "not all of the bytes are in the buffer") (by decide)
    exact ag_thr hx hb hst (names := ["java/lang/RuntimeException", "java/lang/Exception"]) hown (by decide +kernel) (by decide +kernel) (hG _ gw_2_48) (hG _ gw_0_14) hsa1 (aw_hat_Ru_116 hG hE) (by decide +kernel) hU hP hD hSh hS (by rw [hml]; exact hl.1) d_Ru_requireInBuffer_30 d_Ru_requireInBuffer_33 d_Ru_requireInBuffer_34 d_Ru_requireInBuffer_36 d_Ru_requireInBuffer_39 (fun x h => (hex x h).elim) (by decide) (Nat.le_of_ble_eq_true rfl) (Nat.le_of_ble_eq_true rfl) (Nat.le_of_ble_eq_true rfl) hlocks (Nat.le_of_ble_eq_true rfl) (Nat.le_of_ble_eq_true rfl)
  · refine lv_iload_n hx hb d_Ru_requireInBuffer_0 rfl (lv_at hl 1 rfl) ?_
    refine lv_if_le (tgt := 20) hx hb d_Ru_requireInBuffer_1 (by decide) (fun h => absurd h (fun h9 => absurd hi.1 (Int32.not_lt.mpr h9))) (fun _ => ?_)
    refine lv_iload_n hx hb d_Ru_requireInBuffer_4 rfl (lv_at hl 0 rfl) ?_
    refine lv_if_lt (tgt := 16) hx hb d_Ru_requireInBuffer_5 (by decide) (fun _ => ?_) (fun h => absurd hi.2 h)
    refine lv_iconst (v := nI 1) hx hb d_Ru_requireInBuffer_16 (by decide +kernel) ?_
    refine lv_goto (tgt := 21) hx hb d_Ru_requireInBuffer_17 (by decide) ?_
    refine lv_istore_n hx hb d_Ru_requireInBuffer_21 rfl hl (by decide) rfl (fun ls hl => ?_)
    have hl : lv_has ls 3 [(2, .int (nI 1)), (0, .int fr), (1, .int m0)] := hl
    refine lv_iload_n hx hb d_Ru_requireInBuffer_22 rfl (lv_at hl 2 rfl) ?_
    refine lv_if_lt (tgt := 30) hx hb d_Ru_requireInBuffer_23 (by decide) (fun h => absurd h (fun h9 => absurd (Int32.lt_trans h9 hi.1) Int32.lt_irrefl)) (fun _ => ?_)
    refine lv_iload_n hx hb d_Ru_requireInBuffer_26 rfl (lv_at hl 0 rfl) ?_
    refine lv_if_eq (tgt := 40) hx hb d_Ru_requireInBuffer_27 (by decide) (fun h => absurd h (by decide +kernel)) (fun _ => ?_)
    obtain ⟨sa2, hsa2⟩ := hU.2.1.2.2 (123, "not all of the bytes are in the buffer") (by decide)
    exact ag_thr hx hb hst (names := ["java/lang/RuntimeException", "java/lang/Exception"]) hown (by decide +kernel) (by decide +kernel) (hG _ gw_2_48) (hG _ gw_0_14) hsa2 (aw_hat_Ru_116 hG hE) (by decide +kernel) hU hP hD hSh hS (by rw [hml]; exact hl.1) d_Ru_requireInBuffer_30 d_Ru_requireInBuffer_33 d_Ru_requireInBuffer_34 d_Ru_requireInBuffer_36 d_Ru_requireInBuffer_39 (fun x h => (hex x h).elim) (by decide) (Nat.le_of_ble_eq_true rfl) (Nat.le_of_ble_eq_true rfl) (Nat.le_of_ble_eq_true rfl) hlocks (Nat.le_of_ble_eq_true rfl) (Nat.le_of_ble_eq_true rfl)
  · refine lv_iload_n hx hb d_Ru_requireInBuffer_0 rfl (lv_at hl 1 rfl) ?_
    refine lv_if_le (tgt := 20) hx hb d_Ru_requireInBuffer_1 (by decide) (fun h => absurd h (fun h9 => absurd hi.1 (Int32.not_lt.mpr h9))) (fun _ => ?_)
    refine lv_iload_n hx hb d_Ru_requireInBuffer_4 rfl (lv_at hl 0 rfl) ?_
    refine lv_if_lt (tgt := 16) hx hb d_Ru_requireInBuffer_5 (by decide) (fun h => absurd h hi.2.1) (fun _ => ?_)
    refine lv_iload_n hx hb d_Ru_requireInBuffer_8 rfl (lv_at hl 1 rfl) ?_
    refine lv_bipush (v := nI 64) hx hb d_Ru_requireInBuffer_9 (by decide +kernel) ?_
    refine lv_iload_n hx hb d_Ru_requireInBuffer_11 rfl (lv_at hl 0 rfl) ?_
    refine lv_isub hx hb d_Ru_requireInBuffer_12 ?_
    refine lv_icmp_le (tgt := 20) hx hb d_Ru_requireInBuffer_13 (by decide) (fun h => absurd h (fun h9 => absurd hi.2.2 (Int32.not_lt.mpr h9))) (fun _ => ?_)
    refine lv_iconst (v := nI 1) hx hb d_Ru_requireInBuffer_16 (by decide +kernel) ?_
    refine lv_goto (tgt := 21) hx hb d_Ru_requireInBuffer_17 (by decide) ?_
    refine lv_istore_n hx hb d_Ru_requireInBuffer_21 rfl hl (by decide) rfl (fun ls hl => ?_)
    have hl : lv_has ls 3 [(2, .int (nI 1)), (0, .int fr), (1, .int m0)] := hl
    refine lv_iload_n hx hb d_Ru_requireInBuffer_22 rfl (lv_at hl 2 rfl) ?_
    refine lv_if_lt (tgt := 30) hx hb d_Ru_requireInBuffer_23 (by decide) (fun h => absurd h (fun h9 => absurd (Int32.lt_trans h9 hi.1) Int32.lt_irrefl)) (fun _ => ?_)
    refine lv_iload_n hx hb d_Ru_requireInBuffer_26 rfl (lv_at hl 0 rfl) ?_
    refine lv_if_eq (tgt := 40) hx hb d_Ru_requireInBuffer_27 (by decide) (fun h => absurd h (by decide +kernel)) (fun _ => ?_)
    obtain ⟨sa3, hsa3⟩ := hU.2.1.2.2 (123, "not all of the bytes are in the buffer") (by decide)
    exact ag_thr hx hb hst (names := ["java/lang/RuntimeException", "java/lang/Exception"]) hown (by decide +kernel) (by decide +kernel) (hG _ gw_2_48) (hG _ gw_0_14) hsa3 (aw_hat_Ru_116 hG hE) (by decide +kernel) hU hP hD hSh hS (by rw [hml]; exact hl.1) d_Ru_requireInBuffer_30 d_Ru_requireInBuffer_33 d_Ru_requireInBuffer_34 d_Ru_requireInBuffer_36 d_Ru_requireInBuffer_39 (fun x h => (hex x h).elim) (by decide) (Nat.le_of_ble_eq_true rfl) (Nat.le_of_ble_eq_true rfl) (Nat.le_of_ble_eq_true rfl) hlocks (Nat.le_of_ble_eq_true rfl) (Nat.le_of_ble_eq_true rfl)
