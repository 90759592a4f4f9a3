set_option maxHeartbeats 40000000 in
set_option maxRecDepth 100000 in
theorem law_loop {p : Program} {e : Env} {s : State} {m : MethodId} {below : List Frame} {meth : Method} {c : Code} (l : Launch) (hst : l.stackTraces = false) {b Ln : Nat} {xs : Nat → Int32} (hLn : Ln ≤ 3072) (C0 : lw_At p s m meth c b Ln xs) {D : va_G} {g : Nat → ClassId} {ad : Nat → Nat} {N0 : Nat} (hN0e : N0 = s.heap.size) (hU : aw_U D g N0 s) :
    ∀ (d t : Nat) (zG : Nat → Nat × Nat) (zO : Nat → Nat) (zX : Nat → Nat → Int64) (zY : Nat → Nat → Int32) (zA : Nat → Nat → Nat → Int32) (zB : Nat → Int32) (zM : Nat → Nat × Nat) (zI : Nat → Nat → Int32) (zL : Nat → Nat → Int64) (zK : Int32) (zN : Nat) (zF : Int32) (zQ : Int64) (H : Heap) (locs : List Loc) (L : va_W) (ls : Array Slot), t + d = Ln / 6 → va_P D aw_C L H → va_D (aw_Z N0) L → az_Sh g ad zG zO zX zY zA zB zM zI zL zK zN zF zQ L → az_R zG zO zX zY zA zB zM zI zL → va_S (aw_Z N0) s.heap H locs → lv_has ls 8 [(0, .ref b), (1, .ref (aw_r ad 0)), (2, .ref (aw_m ad 0)), (3, .ref (aw_o ad)), (4, .int (nI (6 * t)))] → W p l e room_1 s m #[Value.ref b] below meth c H locs (85 + t) (1246 + 6 * t) (lw_Z below #[Value.ref b] s) (F0 m 23 ls []) := by
  obtain ⟨hx, hb, hr, hml, hown, hts, hX, hbl, hlocks, hgv⟩ := C0
  have hown : s.vm.findClass "RuleCiphersLaw" = some m.cls := hown
  have hG : ∀ w ∈ aw_G, w.before #[Value.ref b] s = true := fun w h => hts w (aw_GL w h)
  have hbA : ¬ aw_Z N0 b := fun h => by have h9 : N0 ≤ b := h; omega
  have hR1 : room_1.cells = 613841 := rfl
  have hR2 : room_1.slots = 7254581 := rfl
  have hE := hU.1
  have hK := hE.1
  have hN := hE.2.1
  intro d
  induction d with
  | zero =>
    intro t zG zO zX zY zA zB zM zI zL zK zN zF zQ H locs L ls ht0 hP hD hSh hR hS hl
    by_cases h6 : 6 ≤ Ln
    · refine lv_iload hx hb d_La_law_23 (lv_at hl 4 rfl) ?_
      refine lv_aload_n hx hb d_La_law_25 rfl (lv_at hl 0 rfl) ?_
      refine va_slen hx hb hX hbl hbA hS d_La_law_26 ?_
      refine aw_ti (y := nI Ln) rfl ?_
      refine lv_bipush (v := nI 6) hx hb d_La_law_27 (by decide +kernel) ?_
      refine lv_isub hx hb d_La_law_29 ?_
      refine aw_ti (pk_sub (a := Ln) (b := 6) (by omega)) ?_
      refine lv_icmp_gt (tgt := 860) hx hb d_La_law_30 (by decide) (fun _ => ?_) (fun h => absurd (show nI (Ln - 6) < nI (6 * t) from (nI_ltI (by omega) (by omega)).mpr (by omega)) h)
      refine lv_iconst (v := 1) hx hb d_La_law_860 (by decide +kernel) ?_
      refine va_forget (fun q hq => by have h9 := hS.2.2 q hq; rw [← hN0e]; exact h9) ?_
      refine W.widen (k := 613841) (n := 7254581) (by omega) (by omega) ?_
      exact lw_ret hx hb hr hlocks d_La_law_861
    · have ht1 : t = 0 := by omega
      subst ht1
      refine lv_iload hx hb d_La_law_23 (lv_at hl 4 rfl) ?_
      refine lv_aload_n hx hb d_La_law_25 rfl (lv_at hl 0 rfl) ?_
      refine va_slen hx hb hX hbl hbA hS d_La_law_26 ?_
      refine aw_ti (y := nI Ln) rfl ?_
      refine lv_bipush (v := nI 6) hx hb d_La_law_27 (by decide +kernel) ?_
      refine lv_isub hx hb d_La_law_29 ?_
      refine lv_icmp_gt (tgt := 860) hx hb d_La_law_30 (by decide) (fun _ => ?_) (fun h => absurd (show nI Ln - nI 6 < nI (6 * 0) from pk_sneg (by decide) (by omega)) h)
      refine lv_iconst (v := 1) hx hb d_La_law_860 (by decide +kernel) ?_
      refine va_forget (fun q hq => by have h9 := hS.2.2 q hq; rw [← hN0e]; exact h9) ?_
      refine W.widen (k := 613841) (n := 7254581) (by omega) (by omega) ?_
      exact lw_ret hx hb hr hlocks d_La_law_861
  | succ d ih =>
    intro t zG zO zX zY zA zB zM zI zL zK zN zF zQ H locs L ls ht0 hP hD hSh hR hS hl
    refine lv_iload hx hb d_La_law_23 (lv_at hl 4 rfl) ?_
    refine lv_aload_n hx hb d_La_law_25 rfl (lv_at hl 0 rfl) ?_
    refine va_slen hx hb hX hbl hbA hS d_La_law_26 ?_
    refine aw_ti (y := nI Ln) rfl ?_
    refine lv_bipush (v := nI 6) hx hb d_La_law_27 (by decide +kernel) ?_
    refine lv_isub hx hb d_La_law_29 ?_
    refine aw_ti (pk_sub (a := Ln) (b := 6) (by omega)) ?_
    refine lv_icmp_gt (tgt := 860) hx hb d_La_law_30 (by decide) (fun h => absurd h (show ¬ nI (Ln - 6) < nI (6 * t) from fun h9 => absurd ((nI_ltI (by omega) (by omega)).mp h9) (by omega))) (fun _ => ?_)
    refine lv_aload_n hx hb d_La_law_33 rfl (lv_at hl 0 rfl) ?_
    refine lv_iload hx hb d_La_law_34 (lv_at hl 4 rfl) ?_
    refine va_sld hx hb hX hbl hbA hS (i := (nI (6 * t))) (vp_in_nI (by omega) (by omega)) d_La_law_36 ?_
    refine lv_topi (fun x1 _ => ?_)
    refine lv_bipush (v := nI 15) hx hb d_La_law_37 (by decide +kernel) ?_
    refine lv_iand hx hb d_La_law_39 ?_
    obtain ⟨k2, hk2, ek2⟩ := pk_andE x1 (m := nI 15) 4 (by decide +kernel)
    refine aw_ti ek2 ?_
    rcases (by omega : k2 = 0 ∨ k2 = 1 ∨ k2 = 2 ∨ k2 = 3 ∨ k2 = 4 ∨ k2 = 5 ∨ k2 = 6 ∨ k2 = 7 ∨ k2 = 8 ∨ k2 = 9 ∨ k2 = 10 ∨ k2 = 11 ∨ k2 = 12 ∨ k2 = 13 ∨ k2 = 14 ∨ k2 = 15) with hs3 | hs3 | hs3 | hs3 | hs3 | hs3 | hs3 | hs3 | hs3 | hs3 | hs3 | hs3 | hs3 | hs3 | hs3 | hs3
    · refine aw_ti (y := nI 0) (by rw [hs3]) ?_
      refine lv_tableIn (tgt := 108) (off := 68) hx hb d_La_law_40 (by decide +kernel) (by decide +kernel) (by decide +kernel) (by decide) ?_
      obtain ⟨c0, hc0⟩ : ∃ z : Int32, z = xs (6 * t + 1) := ⟨_, rfl⟩
      obtain ⟨k0, hk0⟩ : ∃ z : Int32, z = xs (6 * t + 2) := ⟨_, rfl⟩
      rcases aw_rng 4 (by decide) c0 with hc | ⟨j, hj, rfl⟩
      · refine lv_aload_n hx hb d_La_law_108 rfl (lv_at hl 1 rfl) ?_
        refine lv_aload_n hx hb d_La_law_109 rfl (lv_at hl 0 rfl) ?_
        refine lv_iload hx hb d_La_law_110 (lv_at hl 4 rfl) ?_
        refine lv_iconst (v := nI 1) hx hb d_La_law_112 (by decide +kernel) ?_
        refine lv_iadd hx hb d_La_law_113 ?_
        refine aw_ti (nI_add (6 * t) 1) ?_
        refine va_sld hx hb hX hbl hbA hS (i := (nI ((6 * t) + 1))) (vp_in_nI (by omega) (by omega)) d_La_law_114 ?_
        refine aw_ti (y := c0) (by rw [nI_clamp (by omega)]; exact hc0.symm) ?_
        refine lv_aload_n hx hb d_La_law_115 rfl (lv_at hl 0 rfl) ?_
        refine lv_iload hx hb d_La_law_116 (lv_at hl 4 rfl) ?_
        refine lv_iconst (v := nI 2) hx hb d_La_law_118 (by decide +kernel) ?_
        refine lv_iadd hx hb d_La_law_119 ?_
        refine aw_ti (nI_add (6 * t) 2) ?_
        refine va_sld hx hb hX hbl hbA hS (i := (nI ((6 * t) + 2))) (vp_in_nI (by omega) (by omega)) d_La_law_120 ?_
        refine aw_ti (y := k0) (by rw [nI_clamp (by omega)]; exact hk0.symm) ?_
        refine va_calli (vx_runSW (As := [.ref (aw_r ad 0), .int c0, .int k0]) (rest := []) ⟨hx, hb, hml, hown, hG⟩ (k_La_chooseXcV l hst D g ad N0 zG zO zX zY zA zB zM zI zL zK zN zF zQ c0 k0 hc) (aw_wW 3 hG gw_2_37 gw_2_35 gw_0_0 gw_2_36 rfl rfl hd_La_choose ⟨Nat.le_of_ble_eq_true rfl, Nat.le_of_ble_eq_true rfl⟩) (ag_qS hP hD hSh hU hS) rfl rfl hl.1 rfl (lv_room (Nat.le_of_ble_eq_true rfl)) d_La_law_121 ⟨by omega, by omega⟩) hS (fun _ _ h => h) (fun _ h => h) ?_
        clear hP hD hSh hS
        intro x4 u8 t8 H locs ht _ ex4 hB _ _ hS
        obtain ⟨L, hP, hD, hSh⟩ := hB
        rw [ht] at hP
        clear ht
        subst ex4
        refine lv_istore hx hb d_La_law_124 hl (by decide) rfl (fun ls hl => ?_)
        have hl : lv_has ls 8 [(5, .int (nI 1)), (0, .ref b), (1, .ref (aw_r ad 0)), (2, .ref (aw_m ad 0)), (3, .ref (aw_o ad)), (4, .int (nI (6 * t)))] := hl
        refine lv_aload_n hx hb d_La_law_126 rfl (lv_at hl 3 rfl) ?_
        refine lv_aload_n hx hb d_La_law_127 rfl (lv_at hl 1 rfl) ?_
        refine lv_iload hx hb d_La_law_128 (lv_at hl 5 rfl) ?_
        refine lv_iconst (v := nI 1) hx hb d_La_law_130 (by decide +kernel) ?_
        refine lv_iadd hx hb d_La_law_131 ?_
        refine aw_ti (nI_add (6 * t) 1) ?_
        refine va_sld hx hb hX hbl hbA hS (i := (nI ((6 * t) + 1))) (vp_in_nI (by omega) (by omega)) d_La_law_132 ?_
        refine aw_ti (y := c0) (by rw [nI_clamp (by omega)]; exact hc0.symm) ?_
        refine lv_aload_n hx hb d_La_law_133 rfl (lv_at hl 1 rfl) ?_
        refine lv_iload hx hb d_La_law_134 (lv_at hl 5 rfl) ?_
        refine lv_iconst (v := nI 2) hx hb d_La_law_136 (by decide +kernel) ?_
        refine lv_iadd hx hb d_La_law_137 ?_
        refine aw_ti (nI_add (6 * t) 2) ?_
        refine va_sld hx hb hX hbl hbA hS (i := (nI ((6 * t) + 2))) (vp_in_nI (by omega) (by omega)) d_La_law_138 ?_
        refine aw_ti (y := k0) (by rw [nI_clamp (by omega)]; exact hk0.symm) ?_
        obtain ⟨_, he5⟩ := zr_M0 hSh
        refine va_callv (va_runV (As := [.int c0, .int k0]) (rest := []) ⟨hx, hb, hml, hown, hG⟩ (k_Mo_chooseXcV l D g ad N0 zG zO zX zY zA zB zM zI zL zK zN zF zQ c0 k0 hc) (aw_wV 2 hG gw_10_31 gw_10_28 gw_0_10 gw_10_29 gw_10_30 rfl rfl hd_Mo_choose ⟨Nat.le_of_ble_eq_true rfl, Nat.le_of_ble_eq_true rfl⟩) (ag_qV (va_recv hK hP rfl he5) hP hD hSh hU hS) rfl rfl hl.1 rfl (lv_room (Nat.le_of_ble_eq_true rfl)) d_La_law_139 ⟨by omega, by omega⟩) hS (fun _ _ h => h) (fun _ h => h) ?_
        clear hP hD hSh hS he5
        intro u8 t8 H locs ht _ _ hB _ _ hS
        obtain ⟨L, hP, hD, hSh⟩ := hB
        rw [ht] at hP
        clear ht
        refine lv_goto (tgt := 854) hx hb d_La_law_142 (by decide) ?_
        refine lv_iinc (k := 5) (v := nI (6 * t + 6)) hx hb d_La_law_854 hl rfl (aw_inc (6 * t) 6 6 (by decide +kernel)) (by decide) rfl (fun ls hl => ?_)
        have hl : lv_has ls 8 [(4, .int (nI (6 * t + 6))), (5, .int (nI 1)), (0, .ref b), (1, .ref (aw_r ad 0)), (2, .ref (aw_m ad 0)), (3, .ref (aw_o ad))] := hl
        refine lv_goto (tgt := 23) hx hb d_La_law_857 (by decide) ?_
        have hl := lv_sub hl (l' := [(0, .ref b), (1, .ref (aw_r ad 0)), (2, .ref (aw_m ad 0)), (3, .ref (aw_o ad)), (4, .int (nI (6 * t + 6)))]) [2, 3, 4, 5, 0] rfl
        refine W.widen (k := 85 + (t + 1)) (n := 1246 + 6 * (t + 1)) (by omega) (by omega) ?_
        exact ih (t + 1) zG zO zX zY zA zB zM zI zL zK zN (nI 1) zQ _ _ L ls (by omega) hP hD hSh hR hS (by first | exact hl | simpa [Nat.mul_add] using hl)
      · have hgj := hSh.2.2.2.2.1 j hj
        have hq1 : (zM j).1 = (zG j).1 := by rw [hR.1 j hj]
        have hq2 : (zM j).2 = (zG j).2 := by rw [hR.1 j hj]
        rcases aw_rng 5 (by decide) k0 with hk | ⟨k, hk, rfl⟩
        · refine lv_aload_n hx hb d_La_law_108 rfl (lv_at hl 1 rfl) ?_
          refine lv_aload_n hx hb d_La_law_109 rfl (lv_at hl 0 rfl) ?_
          refine lv_iload hx hb d_La_law_110 (lv_at hl 4 rfl) ?_
          refine lv_iconst (v := nI 1) hx hb d_La_law_112 (by decide +kernel) ?_
          refine lv_iadd hx hb d_La_law_113 ?_
          refine aw_ti (nI_add (6 * t) 1) ?_
          refine va_sld hx hb hX hbl hbA hS (i := (nI ((6 * t) + 1))) (vp_in_nI (by omega) (by omega)) d_La_law_114 ?_
          refine aw_ti (y := nI j) (by rw [nI_clamp (by omega)]; exact hc0.symm) ?_
          refine lv_aload_n hx hb d_La_law_115 rfl (lv_at hl 0 rfl) ?_
          refine lv_iload hx hb d_La_law_116 (lv_at hl 4 rfl) ?_
          refine lv_iconst (v := nI 2) hx hb d_La_law_118 (by decide +kernel) ?_
          refine lv_iadd hx hb d_La_law_119 ?_
          refine aw_ti (nI_add (6 * t) 2) ?_
          refine va_sld hx hb hX hbl hbA hS (i := (nI ((6 * t) + 2))) (vp_in_nI (by omega) (by omega)) d_La_law_120 ?_
          refine aw_ti (y := k0) (by rw [nI_clamp (by omega)]; exact hk0.symm) ?_
          refine va_calli (vx_runSW (As := [.ref (aw_r ad 0), .int (nI j), .int k0]) (rest := []) ⟨hx, hb, hml, hown, hG⟩ (k_La_chooseXaV l hst D g ad N0 zG zO zX zY zA zB zM zI zL zK zN zF zQ j k0 hj hk) (aw_wW 3 hG gw_2_37 gw_2_35 gw_0_0 gw_2_36 rfl rfl hd_La_choose ⟨Nat.le_of_ble_eq_true rfl, Nat.le_of_ble_eq_true rfl⟩) (ag_qS hP hD hSh hU hS) rfl rfl hl.1 rfl (lv_room (Nat.le_of_ble_eq_true rfl)) d_La_law_121 ⟨by omega, by omega⟩) hS (fun _ _ h => h) (fun _ h => h) ?_
          clear hP hD hSh hS
          intro x6 u8 t8 H locs ht _ ex6 hB _ _ hS
          obtain ⟨L, hP, hD, hSh⟩ := hB
          rw [ht] at hP
          clear ht
          subst ex6
          refine lv_istore hx hb d_La_law_124 hl (by decide) rfl (fun ls hl => ?_)
          have hl : lv_has ls 8 [(5, .int (nI 2)), (0, .ref b), (1, .ref (aw_r ad 0)), (2, .ref (aw_m ad 0)), (3, .ref (aw_o ad)), (4, .int (nI (6 * t)))] := hl
          refine lv_aload_n hx hb d_La_law_126 rfl (lv_at hl 3 rfl) ?_
          refine lv_aload_n hx hb d_La_law_127 rfl (lv_at hl 1 rfl) ?_
          refine lv_iload hx hb d_La_law_128 (lv_at hl 5 rfl) ?_
          refine lv_iconst (v := nI 1) hx hb d_La_law_130 (by decide +kernel) ?_
          refine lv_iadd hx hb d_La_law_131 ?_
          refine aw_ti (nI_add (6 * t) 1) ?_
          refine va_sld hx hb hX hbl hbA hS (i := (nI ((6 * t) + 1))) (vp_in_nI (by omega) (by omega)) d_La_law_132 ?_
          refine aw_ti (y := nI j) (by rw [nI_clamp (by omega)]; exact hc0.symm) ?_
          refine lv_aload_n hx hb d_La_law_133 rfl (lv_at hl 1 rfl) ?_
          refine lv_iload hx hb d_La_law_134 (lv_at hl 5 rfl) ?_
          refine lv_iconst (v := nI 2) hx hb d_La_law_136 (by decide +kernel) ?_
          refine lv_iadd hx hb d_La_law_137 ?_
          refine aw_ti (nI_add (6 * t) 2) ?_
          refine va_sld hx hb hX hbl hbA hS (i := (nI ((6 * t) + 2))) (vp_in_nI (by omega) (by omega)) d_La_law_138 ?_
          refine aw_ti (y := k0) (by rw [nI_clamp (by omega)]; exact hk0.symm) ?_
          obtain ⟨_, he7⟩ := zr_M0 hSh
          refine va_callv (va_runV (As := [.int (nI j), .int k0]) (rest := []) ⟨hx, hb, hml, hown, hG⟩ (k_Mo_chooseXaV l D g ad N0 zG zO zX zY zA zB zM zI zL zK zN zF zQ j k0 hj (aw_bnd 4 (by decide) hk)) (aw_wV 2 hG gw_10_31 gw_10_28 gw_0_10 gw_10_29 gw_10_30 rfl rfl hd_Mo_choose ⟨Nat.le_of_ble_eq_true rfl, Nat.le_of_ble_eq_true rfl⟩) (ag_qV (va_recv hK hP rfl he7) hP hD hSh hU hS) rfl rfl hl.1 rfl (lv_room (Nat.le_of_ble_eq_true rfl)) d_La_law_139 ⟨by omega, by omega⟩) hS (fun _ _ h => h) (fun _ h => h) ?_
          clear hP hD hSh hS he7
          intro u8 t8 H locs ht _ _ hB _ _ hS
          obtain ⟨L, hP, hD, hSh⟩ := hB
          rw [ht] at hP
          clear ht
          refine lv_goto (tgt := 854) hx hb d_La_law_142 (by decide) ?_
          refine lv_iinc (k := 5) (v := nI (6 * t + 6)) hx hb d_La_law_854 hl rfl (aw_inc (6 * t) 6 6 (by decide +kernel)) (by decide) rfl (fun ls hl => ?_)
          have hl : lv_has ls 8 [(4, .int (nI (6 * t + 6))), (5, .int (nI 2)), (0, .ref b), (1, .ref (aw_r ad 0)), (2, .ref (aw_m ad 0)), (3, .ref (aw_o ad))] := hl
          refine lv_goto (tgt := 23) hx hb d_La_law_857 (by decide) ?_
          have hl := lv_sub hl (l' := [(0, .ref b), (1, .ref (aw_r ad 0)), (2, .ref (aw_m ad 0)), (3, .ref (aw_o ad)), (4, .int (nI (6 * t + 6)))]) [2, 3, 4, 5, 0] rfl
          refine W.widen (k := 85 + (t + 1)) (n := 1246 + 6 * (t + 1)) (by omega) (by omega) ?_
          exact ih (t + 1) zG zO zX zY zA zB zM zI zL zK zN (nI 2) zQ _ _ L ls (by omega) hP hD hSh hR hS (by first | exact hl | simpa [Nat.mul_add] using hl)
        · by_cases hs : (zG j).1 = 0
          · refine lv_aload_n hx hb d_La_law_108 rfl (lv_at hl 1 rfl) ?_
            refine lv_aload_n hx hb d_La_law_109 rfl (lv_at hl 0 rfl) ?_
            refine lv_iload hx hb d_La_law_110 (lv_at hl 4 rfl) ?_
            refine lv_iconst (v := nI 1) hx hb d_La_law_112 (by decide +kernel) ?_
            refine lv_iadd hx hb d_La_law_113 ?_
            refine aw_ti (nI_add (6 * t) 1) ?_
            refine va_sld hx hb hX hbl hbA hS (i := (nI ((6 * t) + 1))) (vp_in_nI (by omega) (by omega)) d_La_law_114 ?_
            refine aw_ti (y := nI j) (by rw [nI_clamp (by omega)]; exact hc0.symm) ?_
            refine lv_aload_n hx hb d_La_law_115 rfl (lv_at hl 0 rfl) ?_
            refine lv_iload hx hb d_La_law_116 (lv_at hl 4 rfl) ?_
            refine lv_iconst (v := nI 2) hx hb d_La_law_118 (by decide +kernel) ?_
            refine lv_iadd hx hb d_La_law_119 ?_
            refine aw_ti (nI_add (6 * t) 2) ?_
            refine va_sld hx hb hX hbl hbA hS (i := (nI ((6 * t) + 2))) (vp_in_nI (by omega) (by omega)) d_La_law_120 ?_
            refine aw_ti (y := nI k) (by rw [nI_clamp (by omega)]; exact hk0.symm) ?_
            refine va_calli (vx_runSW (As := [.ref (aw_r ad 0), .int (nI j), .int (nI k)]) (rest := []) ⟨hx, hb, hml, hown, hG⟩ (k_La_choose1V l hst D g ad N0 zG zO zX zY zA zB zM zI zL zK zN zF zQ j k hj (by omega) (by omega)) (aw_wW 3 hG gw_2_37 gw_2_35 gw_0_0 gw_2_36 rfl rfl hd_La_choose ⟨Nat.le_of_ble_eq_true rfl, Nat.le_of_ble_eq_true rfl⟩) (ag_qS hP hD hSh hU hS) rfl rfl hl.1 rfl (lv_room (Nat.le_of_ble_eq_true rfl)) d_La_law_121 ⟨by omega, by omega⟩) hS (fun _ _ h => h) (fun _ h => h) ?_
            clear hP hD hSh hS
            intro x8 u8 t8 H locs ht _ ex8 hB _ _ hS
            obtain ⟨L, hP, hD, hSh⟩ := hB
            rw [ht] at hP
            clear ht
            subst ex8
            obtain ⟨zG9, ezG9⟩ : ∃ z : Nat → Nat × Nat, v_La_choose1V_zG zG zO j k = z := ⟨_, rfl⟩
            rw [ezG9] at hSh
            obtain ⟨zO10, ezO10⟩ : ∃ z : Nat → Nat, v_La_choose1V_zO zG zO j k = z := ⟨_, rfl⟩
            rw [ezO10] at hSh
            refine lv_istore hx hb d_La_law_124 hl (by decide) rfl (fun ls hl => ?_)
            have hl : lv_has ls 8 [(5, .int (nI 0)), (0, .ref b), (1, .ref (aw_r ad 0)), (2, .ref (aw_m ad 0)), (3, .ref (aw_o ad)), (4, .int (nI (6 * t)))] := hl
            refine lv_aload_n hx hb d_La_law_126 rfl (lv_at hl 3 rfl) ?_
            refine lv_aload_n hx hb d_La_law_127 rfl (lv_at hl 1 rfl) ?_
            refine lv_iload hx hb d_La_law_128 (lv_at hl 5 rfl) ?_
            refine lv_iconst (v := nI 1) hx hb d_La_law_130 (by decide +kernel) ?_
            refine lv_iadd hx hb d_La_law_131 ?_
            refine aw_ti (nI_add (6 * t) 1) ?_
            refine va_sld hx hb hX hbl hbA hS (i := (nI ((6 * t) + 1))) (vp_in_nI (by omega) (by omega)) d_La_law_132 ?_
            refine aw_ti (y := nI j) (by rw [nI_clamp (by omega)]; exact hc0.symm) ?_
            refine lv_aload_n hx hb d_La_law_133 rfl (lv_at hl 1 rfl) ?_
            refine lv_iload hx hb d_La_law_134 (lv_at hl 5 rfl) ?_
            refine lv_iconst (v := nI 2) hx hb d_La_law_136 (by decide +kernel) ?_
            refine lv_iadd hx hb d_La_law_137 ?_
            refine aw_ti (nI_add (6 * t) 2) ?_
            refine va_sld hx hb hX hbl hbA hS (i := (nI ((6 * t) + 2))) (vp_in_nI (by omega) (by omega)) d_La_law_138 ?_
            refine aw_ti (y := nI k) (by rw [nI_clamp (by omega)]; exact hk0.symm) ?_
            obtain ⟨_, he11⟩ := zr_M0 hSh
            refine va_callv (va_runV (As := [.int (nI j), .int (nI k)]) (rest := []) ⟨hx, hb, hml, hown, hG⟩ (k_Mo_choose1V l D g ad N0 zG9 zO10 zX zY zA zB zM zI zL zK zN zF zQ j k hj (by omega) (by omega)) (aw_wV 2 hG gw_10_31 gw_10_28 gw_0_10 gw_10_29 gw_10_30 rfl rfl hd_Mo_choose ⟨Nat.le_of_ble_eq_true rfl, Nat.le_of_ble_eq_true rfl⟩) (ag_qV (va_recv hK hP rfl he11) hP hD hSh hU hS) rfl rfl hl.1 rfl (lv_room (Nat.le_of_ble_eq_true rfl)) d_La_law_139 ⟨by omega, by omega⟩) hS (fun _ _ h => h) (fun _ h => h) ?_
            clear hP hD hSh hS he11
            intro u8 t8 H locs ht _ _ hB _ _ hS
            obtain ⟨L, hP, hD, hSh⟩ := hB
            rw [ht] at hP
            clear ht
            obtain ⟨zM12, ezM12⟩ : ∃ z : Nat → Nat × Nat, v_Mo_choose1V_zM zM zI j k = z := ⟨_, rfl⟩
            rw [ezM12] at hSh
            obtain ⟨zI13, ezI13⟩ : ∃ z : Nat → Nat → Int32, v_Mo_choose1V_zI zM zI j k = z := ⟨_, rfl⟩
            rw [ezI13] at hSh
            refine lv_goto (tgt := 854) hx hb d_La_law_142 (by decide) ?_
            refine lv_iinc (k := 5) (v := nI (6 * t + 6)) hx hb d_La_law_854 hl rfl (aw_inc (6 * t) 6 6 (by decide +kernel)) (by decide) rfl (fun ls hl => ?_)
            have hl : lv_has ls 8 [(4, .int (nI (6 * t + 6))), (5, .int (nI 0)), (0, .ref b), (1, .ref (aw_r ad 0)), (2, .ref (aw_m ad 0)), (3, .ref (aw_o ad))] := hl
            refine lv_goto (tgt := 23) hx hb d_La_law_857 (by decide) ?_
            have hl := lv_sub hl (l' := [(0, .ref b), (1, .ref (aw_r ad 0)), (2, .ref (aw_m ad 0)), (3, .ref (aw_o ad)), (4, .int (nI (6 * t + 6)))]) [2, 3, 4, 5, 0] rfl
            refine W.widen (k := 85 + (t + 1)) (n := 1246 + 6 * (t + 1)) (by omega) (by omega) ?_
            have hR : az_R zG9 zO10 zX zY zA zB zM12 zI13 zL := by
              subst ezI13 ezM12 ezO10 ezG9
              exact r_choose1 hR hj hk hs
            exact ih (t + 1) zG9 zO10 zX zY zA zB zM12 zI13 zL zK zN (nI 0) zQ _ _ L ls (by omega) hP hD hSh hR hS (by first | exact hl | simpa [Nat.mul_add] using hl)
          · refine lv_aload_n hx hb d_La_law_108 rfl (lv_at hl 1 rfl) ?_
            refine lv_aload_n hx hb d_La_law_109 rfl (lv_at hl 0 rfl) ?_
            refine lv_iload hx hb d_La_law_110 (lv_at hl 4 rfl) ?_
            refine lv_iconst (v := nI 1) hx hb d_La_law_112 (by decide +kernel) ?_
            refine lv_iadd hx hb d_La_law_113 ?_
            refine aw_ti (nI_add (6 * t) 1) ?_
            refine va_sld hx hb hX hbl hbA hS (i := (nI ((6 * t) + 1))) (vp_in_nI (by omega) (by omega)) d_La_law_114 ?_
            refine aw_ti (y := nI j) (by rw [nI_clamp (by omega)]; exact hc0.symm) ?_
            refine lv_aload_n hx hb d_La_law_115 rfl (lv_at hl 0 rfl) ?_
            refine lv_iload hx hb d_La_law_116 (lv_at hl 4 rfl) ?_
            refine lv_iconst (v := nI 2) hx hb d_La_law_118 (by decide +kernel) ?_
            refine lv_iadd hx hb d_La_law_119 ?_
            refine aw_ti (nI_add (6 * t) 2) ?_
            refine va_sld hx hb hX hbl hbA hS (i := (nI ((6 * t) + 2))) (vp_in_nI (by omega) (by omega)) d_La_law_120 ?_
            refine aw_ti (y := nI k) (by rw [nI_clamp (by omega)]; exact hk0.symm) ?_
            refine va_calli (vx_runSW (As := [.ref (aw_r ad 0), .int (nI j), .int (nI k)]) (rest := []) ⟨hx, hb, hml, hown, hG⟩ (k_La_chooseXsV l hst D g ad N0 zG zO zX zY zA zB zM zI zL zK zN zF zQ j k hj (by omega) (by omega)) (aw_wW 3 hG gw_2_37 gw_2_35 gw_0_0 gw_2_36 rfl rfl hd_La_choose ⟨Nat.le_of_ble_eq_true rfl, Nat.le_of_ble_eq_true rfl⟩) (ag_qS hP hD hSh hU hS) rfl rfl hl.1 rfl (lv_room (Nat.le_of_ble_eq_true rfl)) d_La_law_121 ⟨by omega, by omega⟩) hS (fun _ _ h => h) (fun _ h => h) ?_
            clear hP hD hSh hS
            intro x14 u8 t8 H locs ht _ ex14 hB _ _ hS
            obtain ⟨L, hP, hD, hSh⟩ := hB
            rw [ht] at hP
            clear ht
            subst ex14
            refine lv_istore hx hb d_La_law_124 hl (by decide) rfl (fun ls hl => ?_)
            have hl : lv_has ls 8 [(5, .int (nI 3)), (0, .ref b), (1, .ref (aw_r ad 0)), (2, .ref (aw_m ad 0)), (3, .ref (aw_o ad)), (4, .int (nI (6 * t)))] := hl
            refine lv_aload_n hx hb d_La_law_126 rfl (lv_at hl 3 rfl) ?_
            refine lv_aload_n hx hb d_La_law_127 rfl (lv_at hl 1 rfl) ?_
            refine lv_iload hx hb d_La_law_128 (lv_at hl 5 rfl) ?_
            refine lv_iconst (v := nI 1) hx hb d_La_law_130 (by decide +kernel) ?_
            refine lv_iadd hx hb d_La_law_131 ?_
            refine aw_ti (nI_add (6 * t) 1) ?_
            refine va_sld hx hb hX hbl hbA hS (i := (nI ((6 * t) + 1))) (vp_in_nI (by omega) (by omega)) d_La_law_132 ?_
            refine aw_ti (y := nI j) (by rw [nI_clamp (by omega)]; exact hc0.symm) ?_
            refine lv_aload_n hx hb d_La_law_133 rfl (lv_at hl 1 rfl) ?_
            refine lv_iload hx hb d_La_law_134 (lv_at hl 5 rfl) ?_
            refine lv_iconst (v := nI 2) hx hb d_La_law_136 (by decide +kernel) ?_
            refine lv_iadd hx hb d_La_law_137 ?_
            refine aw_ti (nI_add (6 * t) 2) ?_
            refine va_sld hx hb hX hbl hbA hS (i := (nI ((6 * t) + 2))) (vp_in_nI (by omega) (by omega)) d_La_law_138 ?_
            refine aw_ti (y := nI k) (by rw [nI_clamp (by omega)]; exact hk0.symm) ?_
            obtain ⟨_, he15⟩ := zr_M0 hSh
            refine va_callv (va_runV (As := [.int (nI j), .int (nI k)]) (rest := []) ⟨hx, hb, hml, hown, hG⟩ (k_Mo_chooseXsV l D g ad N0 zG zO zX zY zA zB zM zI zL zK zN zF zQ j k hj (by omega) (by omega)) (aw_wV 2 hG gw_10_31 gw_10_28 gw_0_10 gw_10_29 gw_10_30 rfl rfl hd_Mo_choose ⟨Nat.le_of_ble_eq_true rfl, Nat.le_of_ble_eq_true rfl⟩) (ag_qV (va_recv hK hP rfl he15) hP hD hSh hU hS) rfl rfl hl.1 rfl (lv_room (Nat.le_of_ble_eq_true rfl)) d_La_law_139 ⟨by omega, by omega⟩) hS (fun _ _ h => h) (fun _ h => h) ?_
            clear hP hD hSh hS he15
            intro u8 t8 H locs ht _ _ hB _ _ hS
            obtain ⟨L, hP, hD, hSh⟩ := hB
            rw [ht] at hP
            clear ht
            refine lv_goto (tgt := 854) hx hb d_La_law_142 (by decide) ?_
            refine lv_iinc (k := 5) (v := nI (6 * t + 6)) hx hb d_La_law_854 hl rfl (aw_inc (6 * t) 6 6 (by decide +kernel)) (by decide) rfl (fun ls hl => ?_)
            have hl : lv_has ls 8 [(4, .int (nI (6 * t + 6))), (5, .int (nI 3)), (0, .ref b), (1, .ref (aw_r ad 0)), (2, .ref (aw_m ad 0)), (3, .ref (aw_o ad))] := hl
            refine lv_goto (tgt := 23) hx hb d_La_law_857 (by decide) ?_
            have hl := lv_sub hl (l' := [(0, .ref b), (1, .ref (aw_r ad 0)), (2, .ref (aw_m ad 0)), (3, .ref (aw_o ad)), (4, .int (nI (6 * t + 6)))]) [2, 3, 4, 5, 0] rfl
            refine W.widen (k := 85 + (t + 1)) (n := 1246 + 6 * (t + 1)) (by omega) (by omega) ?_
            exact ih (t + 1) zG zO zX zY zA zB zM zI zL zK zN (nI 3) zQ _ _ L ls (by omega) hP hD hSh hR hS (by first | exact hl | simpa [Nat.mul_add] using hl)
    · refine aw_ti (y := nI 1) (by rw [hs3]) ?_
      refine lv_tableIn (tgt := 145) (off := 105) hx hb d_La_law_40 (by decide +kernel) (by decide +kernel) (by decide +kernel) (by decide) ?_
      obtain ⟨c0, hc0⟩ : ∃ z : Int32, z = xs (6 * t + 1) := ⟨_, rfl⟩
      obtain ⟨s2, hs2⟩ : ∃ z : Int32, z = xs (6 * t + 2) := ⟨_, rfl⟩
      obtain ⟨s3, hs3⟩ : ∃ z : Int32, z = xs (6 * t + 3) := ⟨_, rfl⟩
      obtain ⟨s4, hs4⟩ : ∃ z : Int32, z = xs (6 * t + 4) := ⟨_, rfl⟩
      obtain ⟨s5, hs5⟩ : ∃ z : Int32, z = xs (6 * t + 5) := ⟨_, rfl⟩
      rcases aw_rng 4 (by decide) c0 with hc | ⟨j, hj, rfl⟩
      · refine lv_aload_n hx hb d_La_law_145 rfl (lv_at hl 1 rfl) ?_
        refine lv_aload_n hx hb d_La_law_146 rfl (lv_at hl 0 rfl) ?_
        refine lv_iload hx hb d_La_law_147 (lv_at hl 4 rfl) ?_
        refine lv_iconst (v := nI 1) hx hb d_La_law_149 (by decide +kernel) ?_
        refine lv_iadd hx hb d_La_law_150 ?_
        refine aw_ti (nI_add (6 * t) 1) ?_
        refine va_sld hx hb hX hbl hbA hS (i := (nI ((6 * t) + 1))) (vp_in_nI (by omega) (by omega)) d_La_law_151 ?_
        refine aw_ti (y := c0) (by rw [nI_clamp (by omega)]; exact hc0.symm) ?_
        refine lv_aload_n hx hb d_La_law_152 rfl (lv_at hl 0 rfl) ?_
        refine lv_iload hx hb d_La_law_153 (lv_at hl 4 rfl) ?_
        refine lv_iconst (v := nI 2) hx hb d_La_law_155 (by decide +kernel) ?_
        refine lv_iadd hx hb d_La_law_156 ?_
        refine aw_ti (nI_add (6 * t) 2) ?_
        refine va_sld hx hb hX hbl hbA hS (i := (nI ((6 * t) + 2))) (vp_in_nI (by omega) (by omega)) d_La_law_157 ?_
        refine aw_ti (y := s2) (by rw [nI_clamp (by omega)]; exact hs2.symm) ?_
        refine lv_i2l hx hb d_La_law_158 rfl ?_
        refine ag_topl (fun y16 ey16 => ?_)
        refine lv_bipush (v := nI 32) hx hb d_La_law_159 (by decide +kernel) ?_
        refine lv_lshl hx hb d_La_law_161 rfl ?_
        refine ag_topl (fun y17 ey17 => ?_)
        refine lv_aload_n hx hb d_La_law_162 rfl (lv_at hl 0 rfl) ?_
        refine lv_iload hx hb d_La_law_163 (lv_at hl 4 rfl) ?_
        refine lv_iconst (v := nI 3) hx hb d_La_law_165 (by decide +kernel) ?_
        refine lv_iadd hx hb d_La_law_166 ?_
        refine aw_ti (nI_add (6 * t) 3) ?_
        refine va_sld hx hb hX hbl hbA hS (i := (nI ((6 * t) + 3))) (vp_in_nI (by omega) (by omega)) d_La_law_167 ?_
        refine aw_ti (y := s3) (by rw [nI_clamp (by omega)]; exact hs3.symm) ?_
        refine lv_i2l hx hb d_La_law_168 rfl ?_
        refine ag_topl (fun y18 ey18 => ?_)
        refine lv_ldc2 (v := 4294967295) hx hb hown (hG _ gw_13_3) d_La_law_169 ?_
        refine lv_land hx hb d_La_law_172 ?_
        refine ag_topl (fun y19 ey19 => ?_)
        refine lv_lor hx hb d_La_law_173 ?_
        refine ag_topl (fun y20 ey20 => ?_)
        refine lv_aload_n hx hb d_La_law_174 rfl (lv_at hl 0 rfl) ?_
        refine lv_iload hx hb d_La_law_175 (lv_at hl 4 rfl) ?_
        refine lv_iconst (v := nI 4) hx hb d_La_law_177 (by decide +kernel) ?_
        refine lv_iadd hx hb d_La_law_178 ?_
        refine aw_ti (nI_add (6 * t) 4) ?_
        refine va_sld hx hb hX hbl hbA hS (i := (nI ((6 * t) + 4))) (vp_in_nI (by omega) (by omega)) d_La_law_179 ?_
        refine aw_ti (y := s4) (by rw [nI_clamp (by omega)]; exact hs4.symm) ?_
        refine lv_i2l hx hb d_La_law_180 rfl ?_
        refine ag_topl (fun y21 ey21 => ?_)
        refine lv_bipush (v := nI 32) hx hb d_La_law_181 (by decide +kernel) ?_
        refine lv_lshl hx hb d_La_law_183 rfl ?_
        refine ag_topl (fun y22 ey22 => ?_)
        refine lv_aload_n hx hb d_La_law_184 rfl (lv_at hl 0 rfl) ?_
        refine lv_iload hx hb d_La_law_185 (lv_at hl 4 rfl) ?_
        refine lv_iconst (v := nI 5) hx hb d_La_law_187 (by decide +kernel) ?_
        refine lv_iadd hx hb d_La_law_188 ?_
        refine aw_ti (nI_add (6 * t) 5) ?_
        refine va_sld hx hb hX hbl hbA hS (i := (nI ((6 * t) + 5))) (vp_in_nI (by omega) (by omega)) d_La_law_189 ?_
        refine aw_ti (y := s5) (by rw [nI_clamp (by omega)]; exact hs5.symm) ?_
        refine lv_i2l hx hb d_La_law_190 rfl ?_
        refine ag_topl (fun y23 ey23 => ?_)
        refine lv_ldc2 (v := 4294967295) hx hb hown (hG _ gw_13_3) d_La_law_191 ?_
        refine lv_land hx hb d_La_law_194 ?_
        refine ag_topl (fun y24 ey24 => ?_)
        refine lv_lor hx hb d_La_law_195 ?_
        refine ag_topl (fun y25 ey25 => ?_)
        refine va_calli (vx_runSW (As := [.ref (aw_r ad 0), .int c0, .long y20, .long y25]) (rest := []) ⟨hx, hb, hml, hown, hG⟩ (k_La_keyXcV l hst D g ad N0 zG zO zX zY zA zB zM zI zL zK zN zF zQ c0 y20 y25 hc) (aw_wW 4 hG gw_4_19 gw_4_17 gw_0_0 gw_4_18 rfl rfl hd_La_key ⟨Nat.le_of_ble_eq_true rfl, Nat.le_of_ble_eq_true rfl⟩) (ag_qS hP hD hSh hU hS) rfl rfl hl.1 rfl (lv_room (Nat.le_of_ble_eq_true rfl)) d_La_law_196 ⟨by omega, by omega⟩) hS (fun _ _ h => h) (fun _ h => h) ?_
        clear hP hD hSh hS
        intro x26 u8 t8 H locs ht _ ex26 hB _ _ hS
        obtain ⟨L, hP, hD, hSh⟩ := hB
        rw [ht] at hP
        clear ht
        subst ex26
        refine lv_istore hx hb d_La_law_199 hl (by decide) rfl (fun ls hl => ?_)
        have hl : lv_has ls 8 [(5, .int (nI 1)), (0, .ref b), (1, .ref (aw_r ad 0)), (2, .ref (aw_m ad 0)), (3, .ref (aw_o ad)), (4, .int (nI (6 * t)))] := hl
        refine lv_aload_n hx hb d_La_law_201 rfl (lv_at hl 3 rfl) ?_
        refine lv_aload_n hx hb d_La_law_202 rfl (lv_at hl 1 rfl) ?_
        refine lv_iload hx hb d_La_law_203 (lv_at hl 5 rfl) ?_
        refine lv_iconst (v := nI 1) hx hb d_La_law_205 (by decide +kernel) ?_
        refine lv_iadd hx hb d_La_law_206 ?_
        refine aw_ti (nI_add (6 * t) 1) ?_
        refine va_sld hx hb hX hbl hbA hS (i := (nI ((6 * t) + 1))) (vp_in_nI (by omega) (by omega)) d_La_law_207 ?_
        refine aw_ti (y := c0) (by rw [nI_clamp (by omega)]; exact hc0.symm) ?_
        refine lv_aload_n hx hb d_La_law_208 rfl (lv_at hl 1 rfl) ?_
        refine lv_iload hx hb d_La_law_209 (lv_at hl 5 rfl) ?_
        refine lv_iconst (v := nI 2) hx hb d_La_law_211 (by decide +kernel) ?_
        refine lv_iadd hx hb d_La_law_212 ?_
        refine aw_ti (nI_add (6 * t) 2) ?_
        refine va_sld hx hb hX hbl hbA hS (i := (nI ((6 * t) + 2))) (vp_in_nI (by omega) (by omega)) d_La_law_213 ?_
        refine aw_ti (y := s2) (by rw [nI_clamp (by omega)]; exact hs2.symm) ?_
        refine lv_i2l hx hb d_La_law_214 rfl ?_
        refine ag_topl (fun y27 ey27 => ?_)
        refine lv_bipush (v := nI 32) hx hb d_La_law_215 (by decide +kernel) ?_
        refine lv_lshl hx hb d_La_law_217 rfl ?_
        refine ag_topl (fun y28 ey28 => ?_)
        refine lv_aload_n hx hb d_La_law_218 rfl (lv_at hl 1 rfl) ?_
        refine lv_iload hx hb d_La_law_219 (lv_at hl 5 rfl) ?_
        refine lv_iconst (v := nI 3) hx hb d_La_law_221 (by decide +kernel) ?_
        refine lv_iadd hx hb d_La_law_222 ?_
        refine aw_ti (nI_add (6 * t) 3) ?_
        refine va_sld hx hb hX hbl hbA hS (i := (nI ((6 * t) + 3))) (vp_in_nI (by omega) (by omega)) d_La_law_223 ?_
        refine aw_ti (y := s3) (by rw [nI_clamp (by omega)]; exact hs3.symm) ?_
        refine lv_i2l hx hb d_La_law_224 rfl ?_
        refine ag_topl (fun y29 ey29 => ?_)
        refine lv_ldc2 (v := 4294967295) hx hb hown (hG _ gw_13_3) d_La_law_225 ?_
        refine lv_land hx hb d_La_law_228 ?_
        refine ag_topl (fun y30 ey30 => ?_)
        refine lv_lor hx hb d_La_law_229 ?_
        refine ag_topl (fun y31 ey31 => ?_)
        refine lv_aload_n hx hb d_La_law_230 rfl (lv_at hl 1 rfl) ?_
        refine lv_iload hx hb d_La_law_231 (lv_at hl 5 rfl) ?_
        refine lv_iconst (v := nI 4) hx hb d_La_law_233 (by decide +kernel) ?_
        refine lv_iadd hx hb d_La_law_234 ?_
        refine aw_ti (nI_add (6 * t) 4) ?_
        refine va_sld hx hb hX hbl hbA hS (i := (nI ((6 * t) + 4))) (vp_in_nI (by omega) (by omega)) d_La_law_235 ?_
        refine aw_ti (y := s4) (by rw [nI_clamp (by omega)]; exact hs4.symm) ?_
        refine lv_i2l hx hb d_La_law_236 rfl ?_
        refine ag_topl (fun y32 ey32 => ?_)
        refine lv_bipush (v := nI 32) hx hb d_La_law_237 (by decide +kernel) ?_
        refine lv_lshl hx hb d_La_law_239 rfl ?_
        refine ag_topl (fun y33 ey33 => ?_)
        refine lv_aload_n hx hb d_La_law_240 rfl (lv_at hl 1 rfl) ?_
        refine lv_iload hx hb d_La_law_241 (lv_at hl 5 rfl) ?_
        refine lv_iconst (v := nI 5) hx hb d_La_law_243 (by decide +kernel) ?_
        refine lv_iadd hx hb d_La_law_244 ?_
        refine aw_ti (nI_add (6 * t) 5) ?_
        refine va_sld hx hb hX hbl hbA hS (i := (nI ((6 * t) + 5))) (vp_in_nI (by omega) (by omega)) d_La_law_245 ?_
        refine aw_ti (y := s5) (by rw [nI_clamp (by omega)]; exact hs5.symm) ?_
        refine lv_i2l hx hb d_La_law_246 rfl ?_
        refine ag_topl (fun y34 ey34 => ?_)
        refine lv_ldc2 (v := 4294967295) hx hb hown (hG _ gw_13_3) d_La_law_247 ?_
        refine lv_land hx hb d_La_law_250 ?_
        refine ag_topl (fun y35 ey35 => ?_)
        refine lv_lor hx hb d_La_law_251 ?_
        refine ag_topl (fun y36 ey36 => ?_)
        obtain ⟨_, he37⟩ := zr_M0 hSh
        refine va_callv (va_runV (As := [.int c0, .long y31, .long y36]) (rest := []) ⟨hx, hb, hml, hown, hG⟩ (k_Mo_keyXcV l D g ad N0 zG zO zX zY zA zB zM zI zL zK zN zF zQ c0 y31 y36 hc) (aw_wV 3 hG gw_10_41 gw_10_38 gw_0_10 gw_10_39 gw_10_40 rfl rfl hd_Mo_key ⟨Nat.le_of_ble_eq_true rfl, Nat.le_of_ble_eq_true rfl⟩) (ag_qV (va_recv hK hP rfl he37) hP hD hSh hU hS) rfl rfl hl.1 rfl (lv_room (Nat.le_of_ble_eq_true rfl)) d_La_law_252 ⟨by omega, by omega⟩) hS (fun _ _ h => h) (fun _ h => h) ?_
        clear hP hD hSh hS he37
        intro u8 t8 H locs ht _ _ hB _ _ hS
        obtain ⟨L, hP, hD, hSh⟩ := hB
        rw [ht] at hP
        clear ht
        refine lv_goto (tgt := 854) hx hb d_La_law_255 (by decide) ?_
        refine lv_iinc (k := 5) (v := nI (6 * t + 6)) hx hb d_La_law_854 hl rfl (aw_inc (6 * t) 6 6 (by decide +kernel)) (by decide) rfl (fun ls hl => ?_)
        have hl : lv_has ls 8 [(4, .int (nI (6 * t + 6))), (5, .int (nI 1)), (0, .ref b), (1, .ref (aw_r ad 0)), (2, .ref (aw_m ad 0)), (3, .ref (aw_o ad))] := hl
        refine lv_goto (tgt := 23) hx hb d_La_law_857 (by decide) ?_
        have hl := lv_sub hl (l' := [(0, .ref b), (1, .ref (aw_r ad 0)), (2, .ref (aw_m ad 0)), (3, .ref (aw_o ad)), (4, .int (nI (6 * t + 6)))]) [2, 3, 4, 5, 0] rfl
        refine W.widen (k := 85 + (t + 1)) (n := 1246 + 6 * (t + 1)) (by omega) (by omega) ?_
        exact ih (t + 1) zG zO zX zY zA zB zM zI zL zK zN (nI 1) zQ _ _ L ls (by omega) hP hD hSh hR hS (by first | exact hl | simpa [Nat.mul_add] using hl)
      · have hgj := hSh.2.2.2.2.1 j hj
        have hq1 : (zM j).1 = (zG j).1 := by rw [hR.1 j hj]
        have hq2 : (zM j).2 = (zG j).2 := by rw [hR.1 j hj]
        by_cases hs : (zG j).1 = 0
        · refine lv_aload_n hx hb d_La_law_145 rfl (lv_at hl 1 rfl) ?_
          refine lv_aload_n hx hb d_La_law_146 rfl (lv_at hl 0 rfl) ?_
          refine lv_iload hx hb d_La_law_147 (lv_at hl 4 rfl) ?_
          refine lv_iconst (v := nI 1) hx hb d_La_law_149 (by decide +kernel) ?_
          refine lv_iadd hx hb d_La_law_150 ?_
          refine aw_ti (nI_add (6 * t) 1) ?_
          refine va_sld hx hb hX hbl hbA hS (i := (nI ((6 * t) + 1))) (vp_in_nI (by omega) (by omega)) d_La_law_151 ?_
          refine aw_ti (y := nI j) (by rw [nI_clamp (by omega)]; exact hc0.symm) ?_
          refine lv_aload_n hx hb d_La_law_152 rfl (lv_at hl 0 rfl) ?_
          refine lv_iload hx hb d_La_law_153 (lv_at hl 4 rfl) ?_
          refine lv_iconst (v := nI 2) hx hb d_La_law_155 (by decide +kernel) ?_
          refine lv_iadd hx hb d_La_law_156 ?_
          refine aw_ti (nI_add (6 * t) 2) ?_
          refine va_sld hx hb hX hbl hbA hS (i := (nI ((6 * t) + 2))) (vp_in_nI (by omega) (by omega)) d_La_law_157 ?_
          refine aw_ti (y := s2) (by rw [nI_clamp (by omega)]; exact hs2.symm) ?_
          refine lv_i2l hx hb d_La_law_158 rfl ?_
          refine ag_topl (fun y38 ey38 => ?_)
          refine lv_bipush (v := nI 32) hx hb d_La_law_159 (by decide +kernel) ?_
          refine lv_lshl hx hb d_La_law_161 rfl ?_
          refine ag_topl (fun y39 ey39 => ?_)
          refine lv_aload_n hx hb d_La_law_162 rfl (lv_at hl 0 rfl) ?_
          refine lv_iload hx hb d_La_law_163 (lv_at hl 4 rfl) ?_
          refine lv_iconst (v := nI 3) hx hb d_La_law_165 (by decide +kernel) ?_
          refine lv_iadd hx hb d_La_law_166 ?_
          refine aw_ti (nI_add (6 * t) 3) ?_
          refine va_sld hx hb hX hbl hbA hS (i := (nI ((6 * t) + 3))) (vp_in_nI (by omega) (by omega)) d_La_law_167 ?_
          refine aw_ti (y := s3) (by rw [nI_clamp (by omega)]; exact hs3.symm) ?_
          refine lv_i2l hx hb d_La_law_168 rfl ?_
          refine ag_topl (fun y40 ey40 => ?_)
          refine lv_ldc2 (v := 4294967295) hx hb hown (hG _ gw_13_3) d_La_law_169 ?_
          refine lv_land hx hb d_La_law_172 ?_
          refine ag_topl (fun y41 ey41 => ?_)
          refine lv_lor hx hb d_La_law_173 ?_
          refine ag_topl (fun y42 ey42 => ?_)
          refine lv_aload_n hx hb d_La_law_174 rfl (lv_at hl 0 rfl) ?_
          refine lv_iload hx hb d_La_law_175 (lv_at hl 4 rfl) ?_
          refine lv_iconst (v := nI 4) hx hb d_La_law_177 (by decide +kernel) ?_
          refine lv_iadd hx hb d_La_law_178 ?_
          refine aw_ti (nI_add (6 * t) 4) ?_
          refine va_sld hx hb hX hbl hbA hS (i := (nI ((6 * t) + 4))) (vp_in_nI (by omega) (by omega)) d_La_law_179 ?_
          refine aw_ti (y := s4) (by rw [nI_clamp (by omega)]; exact hs4.symm) ?_
          refine lv_i2l hx hb d_La_law_180 rfl ?_
          refine ag_topl (fun y43 ey43 => ?_)
          refine lv_bipush (v := nI 32) hx hb d_La_law_181 (by decide +kernel) ?_
          refine lv_lshl hx hb d_La_law_183 rfl ?_
          refine ag_topl (fun y44 ey44 => ?_)
          refine lv_aload_n hx hb d_La_law_184 rfl (lv_at hl 0 rfl) ?_
          refine lv_iload hx hb d_La_law_185 (lv_at hl 4 rfl) ?_
          refine lv_iconst (v := nI 5) hx hb d_La_law_187 (by decide +kernel) ?_
          refine lv_iadd hx hb d_La_law_188 ?_
          refine aw_ti (nI_add (6 * t) 5) ?_
          refine va_sld hx hb hX hbl hbA hS (i := (nI ((6 * t) + 5))) (vp_in_nI (by omega) (by omega)) d_La_law_189 ?_
          refine aw_ti (y := s5) (by rw [nI_clamp (by omega)]; exact hs5.symm) ?_
          refine lv_i2l hx hb d_La_law_190 rfl ?_
          refine ag_topl (fun y45 ey45 => ?_)
          refine lv_ldc2 (v := 4294967295) hx hb hown (hG _ gw_13_3) d_La_law_191 ?_
          refine lv_land hx hb d_La_law_194 ?_
          refine ag_topl (fun y46 ey46 => ?_)
          refine lv_lor hx hb d_La_law_195 ?_
          refine ag_topl (fun y47 ey47 => ?_)
          refine va_calli (vx_runSW (As := [.ref (aw_r ad 0), .int (nI j), .long y42, .long y47]) (rest := []) ⟨hx, hb, hml, hown, hG⟩ (k_La_keyXsV l hst D g ad N0 zG zO zX zY zA zB zM zI zL zK zN zF zQ j y42 y47 hj (by omega)) (aw_wW 4 hG gw_4_19 gw_4_17 gw_0_0 gw_4_18 rfl rfl hd_La_key ⟨Nat.le_of_ble_eq_true rfl, Nat.le_of_ble_eq_true rfl⟩) (ag_qS hP hD hSh hU hS) rfl rfl hl.1 rfl (lv_room (Nat.le_of_ble_eq_true rfl)) d_La_law_196 ⟨by omega, by omega⟩) hS (fun _ _ h => h) (fun _ h => h) ?_
          clear hP hD hSh hS
          intro x48 u8 t8 H locs ht _ ex48 hB _ _ hS
          obtain ⟨L, hP, hD, hSh⟩ := hB
          rw [ht] at hP
          clear ht
          subst ex48
          refine lv_istore hx hb d_La_law_199 hl (by decide) rfl (fun ls hl => ?_)
          have hl : lv_has ls 8 [(5, .int (nI 2)), (0, .ref b), (1, .ref (aw_r ad 0)), (2, .ref (aw_m ad 0)), (3, .ref (aw_o ad)), (4, .int (nI (6 * t)))] := hl
          refine lv_aload_n hx hb d_La_law_201 rfl (lv_at hl 3 rfl) ?_
          refine lv_aload_n hx hb d_La_law_202 rfl (lv_at hl 1 rfl) ?_
          refine lv_iload hx hb d_La_law_203 (lv_at hl 5 rfl) ?_
          refine lv_iconst (v := nI 1) hx hb d_La_law_205 (by decide +kernel) ?_
          refine lv_iadd hx hb d_La_law_206 ?_
          refine aw_ti (nI_add (6 * t) 1) ?_
          refine va_sld hx hb hX hbl hbA hS (i := (nI ((6 * t) + 1))) (vp_in_nI (by omega) (by omega)) d_La_law_207 ?_
          refine aw_ti (y := nI j) (by rw [nI_clamp (by omega)]; exact hc0.symm) ?_
          refine lv_aload_n hx hb d_La_law_208 rfl (lv_at hl 1 rfl) ?_
          refine lv_iload hx hb d_La_law_209 (lv_at hl 5 rfl) ?_
          refine lv_iconst (v := nI 2) hx hb d_La_law_211 (by decide +kernel) ?_
          refine lv_iadd hx hb d_La_law_212 ?_
          refine aw_ti (nI_add (6 * t) 2) ?_
          refine va_sld hx hb hX hbl hbA hS (i := (nI ((6 * t) + 2))) (vp_in_nI (by omega) (by omega)) d_La_law_213 ?_
          refine aw_ti (y := s2) (by rw [nI_clamp (by omega)]; exact hs2.symm) ?_
          refine lv_i2l hx hb d_La_law_214 rfl ?_
          refine ag_topl (fun y49 ey49 => ?_)
          refine lv_bipush (v := nI 32) hx hb d_La_law_215 (by decide +kernel) ?_
          refine lv_lshl hx hb d_La_law_217 rfl ?_
          refine ag_topl (fun y50 ey50 => ?_)
          refine lv_aload_n hx hb d_La_law_218 rfl (lv_at hl 1 rfl) ?_
          refine lv_iload hx hb d_La_law_219 (lv_at hl 5 rfl) ?_
          refine lv_iconst (v := nI 3) hx hb d_La_law_221 (by decide +kernel) ?_
          refine lv_iadd hx hb d_La_law_222 ?_
          refine aw_ti (nI_add (6 * t) 3) ?_
          refine va_sld hx hb hX hbl hbA hS (i := (nI ((6 * t) + 3))) (vp_in_nI (by omega) (by omega)) d_La_law_223 ?_
          refine aw_ti (y := s3) (by rw [nI_clamp (by omega)]; exact hs3.symm) ?_
          refine lv_i2l hx hb d_La_law_224 rfl ?_
          refine ag_topl (fun y51 ey51 => ?_)
          refine lv_ldc2 (v := 4294967295) hx hb hown (hG _ gw_13_3) d_La_law_225 ?_
          refine lv_land hx hb d_La_law_228 ?_
          refine ag_topl (fun y52 ey52 => ?_)
          refine lv_lor hx hb d_La_law_229 ?_
          refine ag_topl (fun y53 ey53 => ?_)
          refine lv_aload_n hx hb d_La_law_230 rfl (lv_at hl 1 rfl) ?_
          refine lv_iload hx hb d_La_law_231 (lv_at hl 5 rfl) ?_
          refine lv_iconst (v := nI 4) hx hb d_La_law_233 (by decide +kernel) ?_
          refine lv_iadd hx hb d_La_law_234 ?_
          refine aw_ti (nI_add (6 * t) 4) ?_
          refine va_sld hx hb hX hbl hbA hS (i := (nI ((6 * t) + 4))) (vp_in_nI (by omega) (by omega)) d_La_law_235 ?_
          refine aw_ti (y := s4) (by rw [nI_clamp (by omega)]; exact hs4.symm) ?_
          refine lv_i2l hx hb d_La_law_236 rfl ?_
          refine ag_topl (fun y54 ey54 => ?_)
          refine lv_bipush (v := nI 32) hx hb d_La_law_237 (by decide +kernel) ?_
          refine lv_lshl hx hb d_La_law_239 rfl ?_
          refine ag_topl (fun y55 ey55 => ?_)
          refine lv_aload_n hx hb d_La_law_240 rfl (lv_at hl 1 rfl) ?_
          refine lv_iload hx hb d_La_law_241 (lv_at hl 5 rfl) ?_
          refine lv_iconst (v := nI 5) hx hb d_La_law_243 (by decide +kernel) ?_
          refine lv_iadd hx hb d_La_law_244 ?_
          refine aw_ti (nI_add (6 * t) 5) ?_
          refine va_sld hx hb hX hbl hbA hS (i := (nI ((6 * t) + 5))) (vp_in_nI (by omega) (by omega)) d_La_law_245 ?_
          refine aw_ti (y := s5) (by rw [nI_clamp (by omega)]; exact hs5.symm) ?_
          refine lv_i2l hx hb d_La_law_246 rfl ?_
          refine ag_topl (fun y56 ey56 => ?_)
          refine lv_ldc2 (v := 4294967295) hx hb hown (hG _ gw_13_3) d_La_law_247 ?_
          refine lv_land hx hb d_La_law_250 ?_
          refine ag_topl (fun y57 ey57 => ?_)
          refine lv_lor hx hb d_La_law_251 ?_
          refine ag_topl (fun y58 ey58 => ?_)
          obtain ⟨_, he59⟩ := zr_M0 hSh
          refine va_callv (va_runV (As := [.int (nI j), .long y53, .long y58]) (rest := []) ⟨hx, hb, hml, hown, hG⟩ (k_Mo_keyXsV l D g ad N0 zG zO zX zY zA zB zM zI zL zK zN zF zQ j y53 y58 hj (by omega)) (aw_wV 3 hG gw_10_41 gw_10_38 gw_0_10 gw_10_39 gw_10_40 rfl rfl hd_Mo_key ⟨Nat.le_of_ble_eq_true rfl, Nat.le_of_ble_eq_true rfl⟩) (ag_qV (va_recv hK hP rfl he59) hP hD hSh hU hS) rfl rfl hl.1 rfl (lv_room (Nat.le_of_ble_eq_true rfl)) d_La_law_252 ⟨by omega, by omega⟩) hS (fun _ _ h => h) (fun _ h => h) ?_
          clear hP hD hSh hS he59
          intro u8 t8 H locs ht _ _ hB _ _ hS
          obtain ⟨L, hP, hD, hSh⟩ := hB
          rw [ht] at hP
          clear ht
          refine lv_goto (tgt := 854) hx hb d_La_law_255 (by decide) ?_
          refine lv_iinc (k := 5) (v := nI (6 * t + 6)) hx hb d_La_law_854 hl rfl (aw_inc (6 * t) 6 6 (by decide +kernel)) (by decide) rfl (fun ls hl => ?_)
          have hl : lv_has ls 8 [(4, .int (nI (6 * t + 6))), (5, .int (nI 2)), (0, .ref b), (1, .ref (aw_r ad 0)), (2, .ref (aw_m ad 0)), (3, .ref (aw_o ad))] := hl
          refine lv_goto (tgt := 23) hx hb d_La_law_857 (by decide) ?_
          have hl := lv_sub hl (l' := [(0, .ref b), (1, .ref (aw_r ad 0)), (2, .ref (aw_m ad 0)), (3, .ref (aw_o ad)), (4, .int (nI (6 * t + 6)))]) [2, 3, 4, 5, 0] rfl
          refine W.widen (k := 85 + (t + 1)) (n := 1246 + 6 * (t + 1)) (by omega) (by omega) ?_
          exact ih (t + 1) zG zO zX zY zA zB zM zI zL zK zN (nI 2) zQ _ _ L ls (by omega) hP hD hSh hR hS (by first | exact hl | simpa [Nat.mul_add] using hl)
        · refine lv_aload_n hx hb d_La_law_145 rfl (lv_at hl 1 rfl) ?_
          refine lv_aload_n hx hb d_La_law_146 rfl (lv_at hl 0 rfl) ?_
          refine lv_iload hx hb d_La_law_147 (lv_at hl 4 rfl) ?_
          refine lv_iconst (v := nI 1) hx hb d_La_law_149 (by decide +kernel) ?_
          refine lv_iadd hx hb d_La_law_150 ?_
          refine aw_ti (nI_add (6 * t) 1) ?_
          refine va_sld hx hb hX hbl hbA hS (i := (nI ((6 * t) + 1))) (vp_in_nI (by omega) (by omega)) d_La_law_151 ?_
          refine aw_ti (y := nI j) (by rw [nI_clamp (by omega)]; exact hc0.symm) ?_
          refine lv_aload_n hx hb d_La_law_152 rfl (lv_at hl 0 rfl) ?_
          refine lv_iload hx hb d_La_law_153 (lv_at hl 4 rfl) ?_
          refine lv_iconst (v := nI 2) hx hb d_La_law_155 (by decide +kernel) ?_
          refine lv_iadd hx hb d_La_law_156 ?_
          refine aw_ti (nI_add (6 * t) 2) ?_
          refine va_sld hx hb hX hbl hbA hS (i := (nI ((6 * t) + 2))) (vp_in_nI (by omega) (by omega)) d_La_law_157 ?_
          refine aw_ti (y := s2) (by rw [nI_clamp (by omega)]; exact hs2.symm) ?_
          refine lv_i2l hx hb d_La_law_158 rfl ?_
          refine ag_topl (fun y60 ey60 => ?_)
          refine lv_bipush (v := nI 32) hx hb d_La_law_159 (by decide +kernel) ?_
          refine lv_lshl hx hb d_La_law_161 rfl ?_
          refine ag_topl (fun y61 ey61 => ?_)
          refine lv_aload_n hx hb d_La_law_162 rfl (lv_at hl 0 rfl) ?_
          refine lv_iload hx hb d_La_law_163 (lv_at hl 4 rfl) ?_
          refine lv_iconst (v := nI 3) hx hb d_La_law_165 (by decide +kernel) ?_
          refine lv_iadd hx hb d_La_law_166 ?_
          refine aw_ti (nI_add (6 * t) 3) ?_
          refine va_sld hx hb hX hbl hbA hS (i := (nI ((6 * t) + 3))) (vp_in_nI (by omega) (by omega)) d_La_law_167 ?_
          refine aw_ti (y := s3) (by rw [nI_clamp (by omega)]; exact hs3.symm) ?_
          refine lv_i2l hx hb d_La_law_168 rfl ?_
          refine ag_topl (fun y62 ey62 => ?_)
          refine lv_ldc2 (v := 4294967295) hx hb hown (hG _ gw_13_3) d_La_law_169 ?_
          refine lv_land hx hb d_La_law_172 ?_
          refine ag_topl (fun y63 ey63 => ?_)
          refine lv_lor hx hb d_La_law_173 ?_
          refine ag_topl (fun y64 ey64 => ?_)
          refine lv_aload_n hx hb d_La_law_174 rfl (lv_at hl 0 rfl) ?_
          refine lv_iload hx hb d_La_law_175 (lv_at hl 4 rfl) ?_
          refine lv_iconst (v := nI 4) hx hb d_La_law_177 (by decide +kernel) ?_
          refine lv_iadd hx hb d_La_law_178 ?_
          refine aw_ti (nI_add (6 * t) 4) ?_
          refine va_sld hx hb hX hbl hbA hS (i := (nI ((6 * t) + 4))) (vp_in_nI (by omega) (by omega)) d_La_law_179 ?_
          refine aw_ti (y := s4) (by rw [nI_clamp (by omega)]; exact hs4.symm) ?_
          refine lv_i2l hx hb d_La_law_180 rfl ?_
          refine ag_topl (fun y65 ey65 => ?_)
          refine lv_bipush (v := nI 32) hx hb d_La_law_181 (by decide +kernel) ?_
          refine lv_lshl hx hb d_La_law_183 rfl ?_
          refine ag_topl (fun y66 ey66 => ?_)
          refine lv_aload_n hx hb d_La_law_184 rfl (lv_at hl 0 rfl) ?_
          refine lv_iload hx hb d_La_law_185 (lv_at hl 4 rfl) ?_
          refine lv_iconst (v := nI 5) hx hb d_La_law_187 (by decide +kernel) ?_
          refine lv_iadd hx hb d_La_law_188 ?_
          refine aw_ti (nI_add (6 * t) 5) ?_
          refine va_sld hx hb hX hbl hbA hS (i := (nI ((6 * t) + 5))) (vp_in_nI (by omega) (by omega)) d_La_law_189 ?_
          refine aw_ti (y := s5) (by rw [nI_clamp (by omega)]; exact hs5.symm) ?_
          refine lv_i2l hx hb d_La_law_190 rfl ?_
          refine ag_topl (fun y67 ey67 => ?_)
          refine lv_ldc2 (v := 4294967295) hx hb hown (hG _ gw_13_3) d_La_law_191 ?_
          refine lv_land hx hb d_La_law_194 ?_
          refine ag_topl (fun y68 ey68 => ?_)
          refine lv_lor hx hb d_La_law_195 ?_
          refine ag_topl (fun y69 ey69 => ?_)
          refine va_calli (vx_runSW (As := [.ref (aw_r ad 0), .int (nI j), .long y64, .long y69]) (rest := []) ⟨hx, hb, hml, hown, hG⟩ (k_La_key1V l hst D g ad N0 zG zO zX zY zA zB zM zI zL zK zN zF zQ j y64 y69 hj (by omega)) (aw_wW 4 hG gw_4_19 gw_4_17 gw_0_0 gw_4_18 rfl rfl hd_La_key ⟨Nat.le_of_ble_eq_true rfl, Nat.le_of_ble_eq_true rfl⟩) (ag_qS hP hD hSh hU hS) rfl rfl hl.1 rfl (lv_room (Nat.le_of_ble_eq_true rfl)) d_La_law_196 ⟨by omega, by omega⟩) hS (fun _ _ h => h) (fun _ h => h) ?_
          clear hP hD hSh hS
          intro x70 u8 t8 H locs ht _ ex70 hB _ _ hS
          obtain ⟨L, hP, hD, hSh⟩ := hB
          rw [ht] at hP
          clear ht
          subst ex70
          obtain ⟨zG71, ezG71⟩ : ∃ z : Nat → Nat × Nat, v_La_key1V_zG zG zO zA j y64 y69 = z := ⟨_, rfl⟩
          rw [ezG71] at hSh
          obtain ⟨zA72, ezA72⟩ : ∃ z : Nat → Nat → Nat → Int32, v_La_key1V_zA zG zO zA j y64 y69 = z := ⟨_, rfl⟩
          rw [ezA72] at hSh
          refine lv_istore hx hb d_La_law_199 hl (by decide) rfl (fun ls hl => ?_)
          have hl : lv_has ls 8 [(5, .int (nI 0)), (0, .ref b), (1, .ref (aw_r ad 0)), (2, .ref (aw_m ad 0)), (3, .ref (aw_o ad)), (4, .int (nI (6 * t)))] := hl
          refine lv_aload_n hx hb d_La_law_201 rfl (lv_at hl 3 rfl) ?_
          refine lv_aload_n hx hb d_La_law_202 rfl (lv_at hl 1 rfl) ?_
          refine lv_iload hx hb d_La_law_203 (lv_at hl 5 rfl) ?_
          refine lv_iconst (v := nI 1) hx hb d_La_law_205 (by decide +kernel) ?_
          refine lv_iadd hx hb d_La_law_206 ?_
          refine aw_ti (nI_add (6 * t) 1) ?_
          refine va_sld hx hb hX hbl hbA hS (i := (nI ((6 * t) + 1))) (vp_in_nI (by omega) (by omega)) d_La_law_207 ?_
          refine aw_ti (y := nI j) (by rw [nI_clamp (by omega)]; exact hc0.symm) ?_
          refine lv_aload_n hx hb d_La_law_208 rfl (lv_at hl 1 rfl) ?_
          refine lv_iload hx hb d_La_law_209 (lv_at hl 5 rfl) ?_
          refine lv_iconst (v := nI 2) hx hb d_La_law_211 (by decide +kernel) ?_
          refine lv_iadd hx hb d_La_law_212 ?_
          refine aw_ti (nI_add (6 * t) 2) ?_
          refine va_sld hx hb hX hbl hbA hS (i := (nI ((6 * t) + 2))) (vp_in_nI (by omega) (by omega)) d_La_law_213 ?_
          refine aw_ti (y := s2) (by rw [nI_clamp (by omega)]; exact hs2.symm) ?_
          refine lv_i2l hx hb d_La_law_214 rfl ?_
          refine ag_topl (fun y73 ey73 => ?_)
          refine lv_bipush (v := nI 32) hx hb d_La_law_215 (by decide +kernel) ?_
          refine lv_lshl hx hb d_La_law_217 rfl ?_
          refine ag_topl (fun y74 ey74 => ?_)
          refine lv_aload_n hx hb d_La_law_218 rfl (lv_at hl 1 rfl) ?_
          refine lv_iload hx hb d_La_law_219 (lv_at hl 5 rfl) ?_
          refine lv_iconst (v := nI 3) hx hb d_La_law_221 (by decide +kernel) ?_
          refine lv_iadd hx hb d_La_law_222 ?_
          refine aw_ti (nI_add (6 * t) 3) ?_
          refine va_sld hx hb hX hbl hbA hS (i := (nI ((6 * t) + 3))) (vp_in_nI (by omega) (by omega)) d_La_law_223 ?_
          refine aw_ti (y := s3) (by rw [nI_clamp (by omega)]; exact hs3.symm) ?_
          refine lv_i2l hx hb d_La_law_224 rfl ?_
          refine ag_topl (fun y75 ey75 => ?_)
          refine lv_ldc2 (v := 4294967295) hx hb hown (hG _ gw_13_3) d_La_law_225 ?_
          refine lv_land hx hb d_La_law_228 ?_
          refine ag_topl (fun y76 ey76 => ?_)
          refine lv_lor hx hb d_La_law_229 ?_
          refine ag_topl (fun y77 ey77 => ?_)
          refine lv_aload_n hx hb d_La_law_230 rfl (lv_at hl 1 rfl) ?_
          refine lv_iload hx hb d_La_law_231 (lv_at hl 5 rfl) ?_
          refine lv_iconst (v := nI 4) hx hb d_La_law_233 (by decide +kernel) ?_
          refine lv_iadd hx hb d_La_law_234 ?_
          refine aw_ti (nI_add (6 * t) 4) ?_
          refine va_sld hx hb hX hbl hbA hS (i := (nI ((6 * t) + 4))) (vp_in_nI (by omega) (by omega)) d_La_law_235 ?_
          refine aw_ti (y := s4) (by rw [nI_clamp (by omega)]; exact hs4.symm) ?_
          refine lv_i2l hx hb d_La_law_236 rfl ?_
          refine ag_topl (fun y78 ey78 => ?_)
          refine lv_bipush (v := nI 32) hx hb d_La_law_237 (by decide +kernel) ?_
          refine lv_lshl hx hb d_La_law_239 rfl ?_
          refine ag_topl (fun y79 ey79 => ?_)
          refine lv_aload_n hx hb d_La_law_240 rfl (lv_at hl 1 rfl) ?_
          refine lv_iload hx hb d_La_law_241 (lv_at hl 5 rfl) ?_
          refine lv_iconst (v := nI 5) hx hb d_La_law_243 (by decide +kernel) ?_
          refine lv_iadd hx hb d_La_law_244 ?_
          refine aw_ti (nI_add (6 * t) 5) ?_
          refine va_sld hx hb hX hbl hbA hS (i := (nI ((6 * t) + 5))) (vp_in_nI (by omega) (by omega)) d_La_law_245 ?_
          refine aw_ti (y := s5) (by rw [nI_clamp (by omega)]; exact hs5.symm) ?_
          refine lv_i2l hx hb d_La_law_246 rfl ?_
          refine ag_topl (fun y80 ey80 => ?_)
          refine lv_ldc2 (v := 4294967295) hx hb hown (hG _ gw_13_3) d_La_law_247 ?_
          refine lv_land hx hb d_La_law_250 ?_
          refine ag_topl (fun y81 ey81 => ?_)
          refine lv_lor hx hb d_La_law_251 ?_
          refine ag_topl (fun y82 ey82 => ?_)
          obtain ⟨_, he83⟩ := zr_M0 hSh
          refine va_callv (va_runV (As := [.int (nI j), .long y77, .long y82]) (rest := []) ⟨hx, hb, hml, hown, hG⟩ (k_Mo_key1V l D g ad N0 zG71 zO zX zY zA72 zB zM zI zL zK zN zF zQ j y77 y82 hj (by omega)) (aw_wV 3 hG gw_10_41 gw_10_38 gw_0_10 gw_10_39 gw_10_40 rfl rfl hd_Mo_key ⟨Nat.le_of_ble_eq_true rfl, Nat.le_of_ble_eq_true rfl⟩) (ag_qV (va_recv hK hP rfl he83) hP hD hSh hU hS) rfl rfl hl.1 rfl (lv_room (Nat.le_of_ble_eq_true rfl)) d_La_law_252 ⟨by omega, by omega⟩) hS (fun _ _ h => h) (fun _ h => h) ?_
          clear hP hD hSh hS he83
          intro u8 t8 H locs ht _ _ hB _ _ hS
          obtain ⟨L, hP, hD, hSh⟩ := hB
          rw [ht] at hP
          clear ht
          obtain ⟨zM84, ezM84⟩ : ∃ z : Nat → Nat × Nat, v_Mo_key1V_zM zM zI zL j y77 y82 = z := ⟨_, rfl⟩
          rw [ezM84] at hSh
          obtain ⟨zI85, ezI85⟩ : ∃ z : Nat → Nat → Int32, v_Mo_key1V_zI zM zI zL j y77 y82 = z := ⟨_, rfl⟩
          rw [ezI85] at hSh
          obtain ⟨zL86, ezL86⟩ : ∃ z : Nat → Nat → Int64, v_Mo_key1V_zL zM zI zL j y77 y82 = z := ⟨_, rfl⟩
          rw [ezL86] at hSh
          refine lv_goto (tgt := 854) hx hb d_La_law_255 (by decide) ?_
          refine lv_iinc (k := 5) (v := nI (6 * t + 6)) hx hb d_La_law_854 hl rfl (aw_inc (6 * t) 6 6 (by decide +kernel)) (by decide) rfl (fun ls hl => ?_)
          have hl : lv_has ls 8 [(4, .int (nI (6 * t + 6))), (5, .int (nI 0)), (0, .ref b), (1, .ref (aw_r ad 0)), (2, .ref (aw_m ad 0)), (3, .ref (aw_o ad))] := hl
          refine lv_goto (tgt := 23) hx hb d_La_law_857 (by decide) ?_
          have hl := lv_sub hl (l' := [(0, .ref b), (1, .ref (aw_r ad 0)), (2, .ref (aw_m ad 0)), (3, .ref (aw_o ad)), (4, .int (nI (6 * t + 6)))]) [2, 3, 4, 5, 0] rfl
          refine W.widen (k := 85 + (t + 1)) (n := 1246 + 6 * (t + 1)) (by omega) (by omega) ?_
          have hR : az_R zG71 zO zX zY zA72 zB zM84 zI85 zL86 := by
            subst ezL86 ezI85 ezM84 ey82 ey81 ey80 ey79 ey78 ey77 ey76 ey75 ey74 ey73 ezA72 ezG71 ey69 ey68 ey67 ey66 ey65 ey64 ey63 ey62 ey61 ey60
            exact r_key1 hR hj hs
          exact ih (t + 1) zG71 zO zX zY zA72 zB zM84 zI85 zL86 zK zN (nI 0) zQ _ _ L ls (by omega) hP hD hSh hR hS (by first | exact hl | simpa [Nat.mul_add] using hl)
    · refine aw_ti (y := nI 2) (by rw [hs3]) ?_
      refine lv_tableIn (tgt := 258) (off := 218) hx hb d_La_law_40 (by decide +kernel) (by decide +kernel) (by decide +kernel) (by decide) ?_
      obtain ⟨c0, hc0⟩ : ∃ z : Int32, z = xs (6 * t + 1) := ⟨_, rfl⟩
      obtain ⟨k0, hk0⟩ : ∃ z : Int32, z = xs (6 * t + 2) := ⟨_, rfl⟩
      obtain ⟨s3, hs3⟩ : ∃ z : Int32, z = xs (6 * t + 3) := ⟨_, rfl⟩
      obtain ⟨s4, hs4⟩ : ∃ z : Int32, z = xs (6 * t + 4) := ⟨_, rfl⟩
      rcases aw_rng 4 (by decide) c0 with hc | ⟨j, hj, rfl⟩
      · refine lv_aload_n hx hb d_La_law_258 rfl (lv_at hl 1 rfl) ?_
        refine lv_aload_n hx hb d_La_law_259 rfl (lv_at hl 0 rfl) ?_
        refine lv_iload hx hb d_La_law_260 (lv_at hl 4 rfl) ?_
        refine lv_iconst (v := nI 1) hx hb d_La_law_262 (by decide +kernel) ?_
        refine lv_iadd hx hb d_La_law_263 ?_
        refine aw_ti (nI_add (6 * t) 1) ?_
        refine va_sld hx hb hX hbl hbA hS (i := (nI ((6 * t) + 1))) (vp_in_nI (by omega) (by omega)) d_La_law_264 ?_
        refine aw_ti (y := c0) (by rw [nI_clamp (by omega)]; exact hc0.symm) ?_
        refine lv_aload_n hx hb d_La_law_265 rfl (lv_at hl 0 rfl) ?_
        refine lv_iload hx hb d_La_law_266 (lv_at hl 4 rfl) ?_
        refine lv_iconst (v := nI 2) hx hb d_La_law_268 (by decide +kernel) ?_
        refine lv_iadd hx hb d_La_law_269 ?_
        refine aw_ti (nI_add (6 * t) 2) ?_
        refine va_sld hx hb hX hbl hbA hS (i := (nI ((6 * t) + 2))) (vp_in_nI (by omega) (by omega)) d_La_law_270 ?_
        refine aw_ti (y := k0) (by rw [nI_clamp (by omega)]; exact hk0.symm) ?_
        refine lv_aload_n hx hb d_La_law_271 rfl (lv_at hl 0 rfl) ?_
        refine lv_iload hx hb d_La_law_272 (lv_at hl 4 rfl) ?_
        refine lv_iconst (v := nI 3) hx hb d_La_law_274 (by decide +kernel) ?_
        refine lv_iadd hx hb d_La_law_275 ?_
        refine aw_ti (nI_add (6 * t) 3) ?_
        refine va_sld hx hb hX hbl hbA hS (i := (nI ((6 * t) + 3))) (vp_in_nI (by omega) (by omega)) d_La_law_276 ?_
        refine aw_ti (y := s3) (by rw [nI_clamp (by omega)]; exact hs3.symm) ?_
        refine lv_i2l hx hb d_La_law_277 rfl ?_
        refine ag_topl (fun y87 ey87 => ?_)
        refine lv_bipush (v := nI 32) hx hb d_La_law_278 (by decide +kernel) ?_
        refine lv_lshl hx hb d_La_law_280 rfl ?_
        refine ag_topl (fun y88 ey88 => ?_)
        refine lv_aload_n hx hb d_La_law_281 rfl (lv_at hl 0 rfl) ?_
        refine lv_iload hx hb d_La_law_282 (lv_at hl 4 rfl) ?_
        refine lv_iconst (v := nI 4) hx hb d_La_law_284 (by decide +kernel) ?_
        refine lv_iadd hx hb d_La_law_285 ?_
        refine aw_ti (nI_add (6 * t) 4) ?_
        refine va_sld hx hb hX hbl hbA hS (i := (nI ((6 * t) + 4))) (vp_in_nI (by omega) (by omega)) d_La_law_286 ?_
        refine aw_ti (y := s4) (by rw [nI_clamp (by omega)]; exact hs4.symm) ?_
        refine lv_i2l hx hb d_La_law_287 rfl ?_
        refine ag_topl (fun y89 ey89 => ?_)
        refine lv_ldc2 (v := 4294967295) hx hb hown (hG _ gw_13_3) d_La_law_288 ?_
        refine lv_land hx hb d_La_law_291 ?_
        refine ag_topl (fun y90 ey90 => ?_)
        refine lv_lor hx hb d_La_law_292 ?_
        refine ag_topl (fun y91 ey91 => ?_)
        refine va_calli (vx_runSW (As := [.ref (aw_r ad 0), .int c0, .int k0, .long y91]) (rest := []) ⟨hx, hb, hml, hown, hG⟩ (k_La_modeXcV l hst D g ad N0 zG zO zX zY zA zB zM zI zL zK zN zF zQ c0 k0 y91 hc) (aw_wW 4 hG gw_5_23 gw_5_21 gw_0_0 gw_5_22 rfl rfl hd_La_mode ⟨Nat.le_of_ble_eq_true rfl, Nat.le_of_ble_eq_true rfl⟩) (ag_qS hP hD hSh hU hS) rfl rfl hl.1 rfl (lv_room (Nat.le_of_ble_eq_true rfl)) d_La_law_293 ⟨by omega, by omega⟩) hS (fun _ _ h => h) (fun _ h => h) ?_
        clear hP hD hSh hS
        intro x92 u8 t8 H locs ht _ ex92 hB _ _ hS
        obtain ⟨L, hP, hD, hSh⟩ := hB
        rw [ht] at hP
        clear ht
        subst ex92
        refine lv_istore hx hb d_La_law_296 hl (by decide) rfl (fun ls hl => ?_)
        have hl : lv_has ls 8 [(5, .int (nI 1)), (0, .ref b), (1, .ref (aw_r ad 0)), (2, .ref (aw_m ad 0)), (3, .ref (aw_o ad)), (4, .int (nI (6 * t)))] := hl
        refine lv_aload_n hx hb d_La_law_298 rfl (lv_at hl 3 rfl) ?_
        refine lv_aload_n hx hb d_La_law_299 rfl (lv_at hl 1 rfl) ?_
        refine lv_iload hx hb d_La_law_300 (lv_at hl 5 rfl) ?_
        refine lv_iconst (v := nI 1) hx hb d_La_law_302 (by decide +kernel) ?_
        refine lv_iadd hx hb d_La_law_303 ?_
        refine aw_ti (nI_add (6 * t) 1) ?_
        refine va_sld hx hb hX hbl hbA hS (i := (nI ((6 * t) + 1))) (vp_in_nI (by omega) (by omega)) d_La_law_304 ?_
        refine aw_ti (y := c0) (by rw [nI_clamp (by omega)]; exact hc0.symm) ?_
        refine lv_aload_n hx hb d_La_law_305 rfl (lv_at hl 1 rfl) ?_
        refine lv_iload hx hb d_La_law_306 (lv_at hl 5 rfl) ?_
        refine lv_iconst (v := nI 2) hx hb d_La_law_308 (by decide +kernel) ?_
        refine lv_iadd hx hb d_La_law_309 ?_
        refine aw_ti (nI_add (6 * t) 2) ?_
        refine va_sld hx hb hX hbl hbA hS (i := (nI ((6 * t) + 2))) (vp_in_nI (by omega) (by omega)) d_La_law_310 ?_
        refine aw_ti (y := k0) (by rw [nI_clamp (by omega)]; exact hk0.symm) ?_
        refine lv_aload_n hx hb d_La_law_311 rfl (lv_at hl 1 rfl) ?_
        refine lv_iload hx hb d_La_law_312 (lv_at hl 5 rfl) ?_
        refine lv_iconst (v := nI 3) hx hb d_La_law_314 (by decide +kernel) ?_
        refine lv_iadd hx hb d_La_law_315 ?_
        refine aw_ti (nI_add (6 * t) 3) ?_
        refine va_sld hx hb hX hbl hbA hS (i := (nI ((6 * t) + 3))) (vp_in_nI (by omega) (by omega)) d_La_law_316 ?_
        refine aw_ti (y := s3) (by rw [nI_clamp (by omega)]; exact hs3.symm) ?_
        refine lv_i2l hx hb d_La_law_317 rfl ?_
        refine ag_topl (fun y93 ey93 => ?_)
        refine lv_bipush (v := nI 32) hx hb d_La_law_318 (by decide +kernel) ?_
        refine lv_lshl hx hb d_La_law_320 rfl ?_
        refine ag_topl (fun y94 ey94 => ?_)
        refine lv_aload_n hx hb d_La_law_321 rfl (lv_at hl 1 rfl) ?_
        refine lv_iload hx hb d_La_law_322 (lv_at hl 5 rfl) ?_
        refine lv_iconst (v := nI 4) hx hb d_La_law_324 (by decide +kernel) ?_
        refine lv_iadd hx hb d_La_law_325 ?_
        refine aw_ti (nI_add (6 * t) 4) ?_
        refine va_sld hx hb hX hbl hbA hS (i := (nI ((6 * t) + 4))) (vp_in_nI (by omega) (by omega)) d_La_law_326 ?_
        refine aw_ti (y := s4) (by rw [nI_clamp (by omega)]; exact hs4.symm) ?_
        refine lv_i2l hx hb d_La_law_327 rfl ?_
        refine ag_topl (fun y95 ey95 => ?_)
        refine lv_ldc2 (v := 4294967295) hx hb hown (hG _ gw_13_3) d_La_law_328 ?_
        refine lv_land hx hb d_La_law_331 ?_
        refine ag_topl (fun y96 ey96 => ?_)
        refine lv_lor hx hb d_La_law_332 ?_
        refine ag_topl (fun y97 ey97 => ?_)
        obtain ⟨_, he98⟩ := zr_M0 hSh
        refine va_callv (va_runV (As := [.int c0, .int k0, .long y97]) (rest := []) ⟨hx, hb, hml, hown, hG⟩ (k_Mo_modeXcV l D g ad N0 zG zO zX zY zA zB zM zI zL zK zN zF zQ c0 k0 y97 hc) (aw_wV 3 hG gw_10_45 gw_10_42 gw_0_10 gw_10_43 gw_10_44 rfl rfl hd_Mo_mode ⟨Nat.le_of_ble_eq_true rfl, Nat.le_of_ble_eq_true rfl⟩) (ag_qV (va_recv hK hP rfl he98) hP hD hSh hU hS) rfl rfl hl.1 rfl (lv_room (Nat.le_of_ble_eq_true rfl)) d_La_law_333 ⟨by omega, by omega⟩) hS (fun _ _ h => h) (fun _ h => h) ?_
        clear hP hD hSh hS he98
        intro u8 t8 H locs ht _ _ hB _ _ hS
        obtain ⟨L, hP, hD, hSh⟩ := hB
        rw [ht] at hP
        clear ht
        refine lv_goto (tgt := 854) hx hb d_La_law_336 (by decide) ?_
        refine lv_iinc (k := 5) (v := nI (6 * t + 6)) hx hb d_La_law_854 hl rfl (aw_inc (6 * t) 6 6 (by decide +kernel)) (by decide) rfl (fun ls hl => ?_)
        have hl : lv_has ls 8 [(4, .int (nI (6 * t + 6))), (5, .int (nI 1)), (0, .ref b), (1, .ref (aw_r ad 0)), (2, .ref (aw_m ad 0)), (3, .ref (aw_o ad))] := hl
        refine lv_goto (tgt := 23) hx hb d_La_law_857 (by decide) ?_
        have hl := lv_sub hl (l' := [(0, .ref b), (1, .ref (aw_r ad 0)), (2, .ref (aw_m ad 0)), (3, .ref (aw_o ad)), (4, .int (nI (6 * t + 6)))]) [2, 3, 4, 5, 0] rfl
        refine W.widen (k := 85 + (t + 1)) (n := 1246 + 6 * (t + 1)) (by omega) (by omega) ?_
        exact ih (t + 1) zG zO zX zY zA zB zM zI zL zK zN (nI 1) zQ _ _ L ls (by omega) hP hD hSh hR hS (by first | exact hl | simpa [Nat.mul_add] using hl)
      · have hgj := hSh.2.2.2.2.1 j hj
        have hq1 : (zM j).1 = (zG j).1 := by rw [hR.1 j hj]
        have hq2 : (zM j).2 = (zG j).2 := by rw [hR.1 j hj]
        rcases aw_ovr 5 (by decide) k0 with hk | ⟨k, hk, rfl⟩
        · refine lv_aload_n hx hb d_La_law_258 rfl (lv_at hl 1 rfl) ?_
          refine lv_aload_n hx hb d_La_law_259 rfl (lv_at hl 0 rfl) ?_
          refine lv_iload hx hb d_La_law_260 (lv_at hl 4 rfl) ?_
          refine lv_iconst (v := nI 1) hx hb d_La_law_262 (by decide +kernel) ?_
          refine lv_iadd hx hb d_La_law_263 ?_
          refine aw_ti (nI_add (6 * t) 1) ?_
          refine va_sld hx hb hX hbl hbA hS (i := (nI ((6 * t) + 1))) (vp_in_nI (by omega) (by omega)) d_La_law_264 ?_
          refine aw_ti (y := nI j) (by rw [nI_clamp (by omega)]; exact hc0.symm) ?_
          refine lv_aload_n hx hb d_La_law_265 rfl (lv_at hl 0 rfl) ?_
          refine lv_iload hx hb d_La_law_266 (lv_at hl 4 rfl) ?_
          refine lv_iconst (v := nI 2) hx hb d_La_law_268 (by decide +kernel) ?_
          refine lv_iadd hx hb d_La_law_269 ?_
          refine aw_ti (nI_add (6 * t) 2) ?_
          refine va_sld hx hb hX hbl hbA hS (i := (nI ((6 * t) + 2))) (vp_in_nI (by omega) (by omega)) d_La_law_270 ?_
          refine aw_ti (y := k0) (by rw [nI_clamp (by omega)]; exact hk0.symm) ?_
          refine lv_aload_n hx hb d_La_law_271 rfl (lv_at hl 0 rfl) ?_
          refine lv_iload hx hb d_La_law_272 (lv_at hl 4 rfl) ?_
          refine lv_iconst (v := nI 3) hx hb d_La_law_274 (by decide +kernel) ?_
          refine lv_iadd hx hb d_La_law_275 ?_
          refine aw_ti (nI_add (6 * t) 3) ?_
          refine va_sld hx hb hX hbl hbA hS (i := (nI ((6 * t) + 3))) (vp_in_nI (by omega) (by omega)) d_La_law_276 ?_
          refine aw_ti (y := s3) (by rw [nI_clamp (by omega)]; exact hs3.symm) ?_
          refine lv_i2l hx hb d_La_law_277 rfl ?_
          refine ag_topl (fun y99 ey99 => ?_)
          refine lv_bipush (v := nI 32) hx hb d_La_law_278 (by decide +kernel) ?_
          refine lv_lshl hx hb d_La_law_280 rfl ?_
          refine ag_topl (fun y100 ey100 => ?_)
          refine lv_aload_n hx hb d_La_law_281 rfl (lv_at hl 0 rfl) ?_
          refine lv_iload hx hb d_La_law_282 (lv_at hl 4 rfl) ?_
          refine lv_iconst (v := nI 4) hx hb d_La_law_284 (by decide +kernel) ?_
          refine lv_iadd hx hb d_La_law_285 ?_
          refine aw_ti (nI_add (6 * t) 4) ?_
          refine va_sld hx hb hX hbl hbA hS (i := (nI ((6 * t) + 4))) (vp_in_nI (by omega) (by omega)) d_La_law_286 ?_
          refine aw_ti (y := s4) (by rw [nI_clamp (by omega)]; exact hs4.symm) ?_
          refine lv_i2l hx hb d_La_law_287 rfl ?_
          refine ag_topl (fun y101 ey101 => ?_)
          refine lv_ldc2 (v := 4294967295) hx hb hown (hG _ gw_13_3) d_La_law_288 ?_
          refine lv_land hx hb d_La_law_291 ?_
          refine ag_topl (fun y102 ey102 => ?_)
          refine lv_lor hx hb d_La_law_292 ?_
          refine ag_topl (fun y103 ey103 => ?_)
          refine va_calli (vx_runSW (As := [.ref (aw_r ad 0), .int (nI j), .int k0, .long y103]) (rest := []) ⟨hx, hb, hml, hown, hG⟩ (k_La_modeXaV l hst D g ad N0 zG zO zX zY zA zB zM zI zL zK zN zF zQ j k0 y103 hj hk) (aw_wW 4 hG gw_5_23 gw_5_21 gw_0_0 gw_5_22 rfl rfl hd_La_mode ⟨Nat.le_of_ble_eq_true rfl, Nat.le_of_ble_eq_true rfl⟩) (ag_qS hP hD hSh hU hS) rfl rfl hl.1 rfl (lv_room (Nat.le_of_ble_eq_true rfl)) d_La_law_293 ⟨by omega, by omega⟩) hS (fun _ _ h => h) (fun _ h => h) ?_
          clear hP hD hSh hS
          intro x104 u8 t8 H locs ht _ ex104 hB _ _ hS
          obtain ⟨L, hP, hD, hSh⟩ := hB
          rw [ht] at hP
          clear ht
          subst ex104
          refine lv_istore hx hb d_La_law_296 hl (by decide) rfl (fun ls hl => ?_)
          have hl : lv_has ls 8 [(5, .int (nI 2)), (0, .ref b), (1, .ref (aw_r ad 0)), (2, .ref (aw_m ad 0)), (3, .ref (aw_o ad)), (4, .int (nI (6 * t)))] := hl
          refine lv_aload_n hx hb d_La_law_298 rfl (lv_at hl 3 rfl) ?_
          refine lv_aload_n hx hb d_La_law_299 rfl (lv_at hl 1 rfl) ?_
          refine lv_iload hx hb d_La_law_300 (lv_at hl 5 rfl) ?_
          refine lv_iconst (v := nI 1) hx hb d_La_law_302 (by decide +kernel) ?_
          refine lv_iadd hx hb d_La_law_303 ?_
          refine aw_ti (nI_add (6 * t) 1) ?_
          refine va_sld hx hb hX hbl hbA hS (i := (nI ((6 * t) + 1))) (vp_in_nI (by omega) (by omega)) d_La_law_304 ?_
          refine aw_ti (y := nI j) (by rw [nI_clamp (by omega)]; exact hc0.symm) ?_
          refine lv_aload_n hx hb d_La_law_305 rfl (lv_at hl 1 rfl) ?_
          refine lv_iload hx hb d_La_law_306 (lv_at hl 5 rfl) ?_
          refine lv_iconst (v := nI 2) hx hb d_La_law_308 (by decide +kernel) ?_
          refine lv_iadd hx hb d_La_law_309 ?_
          refine aw_ti (nI_add (6 * t) 2) ?_
          refine va_sld hx hb hX hbl hbA hS (i := (nI ((6 * t) + 2))) (vp_in_nI (by omega) (by omega)) d_La_law_310 ?_
          refine aw_ti (y := k0) (by rw [nI_clamp (by omega)]; exact hk0.symm) ?_
          refine lv_aload_n hx hb d_La_law_311 rfl (lv_at hl 1 rfl) ?_
          refine lv_iload hx hb d_La_law_312 (lv_at hl 5 rfl) ?_
          refine lv_iconst (v := nI 3) hx hb d_La_law_314 (by decide +kernel) ?_
          refine lv_iadd hx hb d_La_law_315 ?_
          refine aw_ti (nI_add (6 * t) 3) ?_
          refine va_sld hx hb hX hbl hbA hS (i := (nI ((6 * t) + 3))) (vp_in_nI (by omega) (by omega)) d_La_law_316 ?_
          refine aw_ti (y := s3) (by rw [nI_clamp (by omega)]; exact hs3.symm) ?_
          refine lv_i2l hx hb d_La_law_317 rfl ?_
          refine ag_topl (fun y105 ey105 => ?_)
          refine lv_bipush (v := nI 32) hx hb d_La_law_318 (by decide +kernel) ?_
          refine lv_lshl hx hb d_La_law_320 rfl ?_
          refine ag_topl (fun y106 ey106 => ?_)
          refine lv_aload_n hx hb d_La_law_321 rfl (lv_at hl 1 rfl) ?_
          refine lv_iload hx hb d_La_law_322 (lv_at hl 5 rfl) ?_
          refine lv_iconst (v := nI 4) hx hb d_La_law_324 (by decide +kernel) ?_
          refine lv_iadd hx hb d_La_law_325 ?_
          refine aw_ti (nI_add (6 * t) 4) ?_
          refine va_sld hx hb hX hbl hbA hS (i := (nI ((6 * t) + 4))) (vp_in_nI (by omega) (by omega)) d_La_law_326 ?_
          refine aw_ti (y := s4) (by rw [nI_clamp (by omega)]; exact hs4.symm) ?_
          refine lv_i2l hx hb d_La_law_327 rfl ?_
          refine ag_topl (fun y107 ey107 => ?_)
          refine lv_ldc2 (v := 4294967295) hx hb hown (hG _ gw_13_3) d_La_law_328 ?_
          refine lv_land hx hb d_La_law_331 ?_
          refine ag_topl (fun y108 ey108 => ?_)
          refine lv_lor hx hb d_La_law_332 ?_
          refine ag_topl (fun y109 ey109 => ?_)
          obtain ⟨_, he110⟩ := zr_M0 hSh
          refine va_callv (va_runV (As := [.int (nI j), .int k0, .long y109]) (rest := []) ⟨hx, hb, hml, hown, hG⟩ (k_Mo_modeXaV l D g ad N0 zG zO zX zY zA zB zM zI zL zK zN zF zQ j k0 y109 hj hk) (aw_wV 3 hG gw_10_45 gw_10_42 gw_0_10 gw_10_43 gw_10_44 rfl rfl hd_Mo_mode ⟨Nat.le_of_ble_eq_true rfl, Nat.le_of_ble_eq_true rfl⟩) (ag_qV (va_recv hK hP rfl he110) hP hD hSh hU hS) rfl rfl hl.1 rfl (lv_room (Nat.le_of_ble_eq_true rfl)) d_La_law_333 ⟨by omega, by omega⟩) hS (fun _ _ h => h) (fun _ h => h) ?_
          clear hP hD hSh hS he110
          intro u8 t8 H locs ht _ _ hB _ _ hS
          obtain ⟨L, hP, hD, hSh⟩ := hB
          rw [ht] at hP
          clear ht
          refine lv_goto (tgt := 854) hx hb d_La_law_336 (by decide) ?_
          refine lv_iinc (k := 5) (v := nI (6 * t + 6)) hx hb d_La_law_854 hl rfl (aw_inc (6 * t) 6 6 (by decide +kernel)) (by decide) rfl (fun ls hl => ?_)
          have hl : lv_has ls 8 [(4, .int (nI (6 * t + 6))), (5, .int (nI 2)), (0, .ref b), (1, .ref (aw_r ad 0)), (2, .ref (aw_m ad 0)), (3, .ref (aw_o ad))] := hl
          refine lv_goto (tgt := 23) hx hb d_La_law_857 (by decide) ?_
          have hl := lv_sub hl (l' := [(0, .ref b), (1, .ref (aw_r ad 0)), (2, .ref (aw_m ad 0)), (3, .ref (aw_o ad)), (4, .int (nI (6 * t + 6)))]) [2, 3, 4, 5, 0] rfl
          refine W.widen (k := 85 + (t + 1)) (n := 1246 + 6 * (t + 1)) (by omega) (by omega) ?_
          exact ih (t + 1) zG zO zX zY zA zB zM zI zL zK zN (nI 2) zQ _ _ L ls (by omega) hP hD hSh hR hS (by first | exact hl | simpa [Nat.mul_add] using hl)
        · by_cases hs : 2 ≤ (zG j).1
          · refine lv_aload_n hx hb d_La_law_258 rfl (lv_at hl 1 rfl) ?_
            refine lv_aload_n hx hb d_La_law_259 rfl (lv_at hl 0 rfl) ?_
            refine lv_iload hx hb d_La_law_260 (lv_at hl 4 rfl) ?_
            refine lv_iconst (v := nI 1) hx hb d_La_law_262 (by decide +kernel) ?_
            refine lv_iadd hx hb d_La_law_263 ?_
            refine aw_ti (nI_add (6 * t) 1) ?_
            refine va_sld hx hb hX hbl hbA hS (i := (nI ((6 * t) + 1))) (vp_in_nI (by omega) (by omega)) d_La_law_264 ?_
            refine aw_ti (y := nI j) (by rw [nI_clamp (by omega)]; exact hc0.symm) ?_
            refine lv_aload_n hx hb d_La_law_265 rfl (lv_at hl 0 rfl) ?_
            refine lv_iload hx hb d_La_law_266 (lv_at hl 4 rfl) ?_
            refine lv_iconst (v := nI 2) hx hb d_La_law_268 (by decide +kernel) ?_
            refine lv_iadd hx hb d_La_law_269 ?_
            refine aw_ti (nI_add (6 * t) 2) ?_
            refine va_sld hx hb hX hbl hbA hS (i := (nI ((6 * t) + 2))) (vp_in_nI (by omega) (by omega)) d_La_law_270 ?_
            refine aw_ti (y := nI k) (by rw [nI_clamp (by omega)]; exact hk0.symm) ?_
            refine lv_aload_n hx hb d_La_law_271 rfl (lv_at hl 0 rfl) ?_
            refine lv_iload hx hb d_La_law_272 (lv_at hl 4 rfl) ?_
            refine lv_iconst (v := nI 3) hx hb d_La_law_274 (by decide +kernel) ?_
            refine lv_iadd hx hb d_La_law_275 ?_
            refine aw_ti (nI_add (6 * t) 3) ?_
            refine va_sld hx hb hX hbl hbA hS (i := (nI ((6 * t) + 3))) (vp_in_nI (by omega) (by omega)) d_La_law_276 ?_
            refine aw_ti (y := s3) (by rw [nI_clamp (by omega)]; exact hs3.symm) ?_
            refine lv_i2l hx hb d_La_law_277 rfl ?_
            refine ag_topl (fun y111 ey111 => ?_)
            refine lv_bipush (v := nI 32) hx hb d_La_law_278 (by decide +kernel) ?_
            refine lv_lshl hx hb d_La_law_280 rfl ?_
            refine ag_topl (fun y112 ey112 => ?_)
            refine lv_aload_n hx hb d_La_law_281 rfl (lv_at hl 0 rfl) ?_
            refine lv_iload hx hb d_La_law_282 (lv_at hl 4 rfl) ?_
            refine lv_iconst (v := nI 4) hx hb d_La_law_284 (by decide +kernel) ?_
            refine lv_iadd hx hb d_La_law_285 ?_
            refine aw_ti (nI_add (6 * t) 4) ?_
            refine va_sld hx hb hX hbl hbA hS (i := (nI ((6 * t) + 4))) (vp_in_nI (by omega) (by omega)) d_La_law_286 ?_
            refine aw_ti (y := s4) (by rw [nI_clamp (by omega)]; exact hs4.symm) ?_
            refine lv_i2l hx hb d_La_law_287 rfl ?_
            refine ag_topl (fun y113 ey113 => ?_)
            refine lv_ldc2 (v := 4294967295) hx hb hown (hG _ gw_13_3) d_La_law_288 ?_
            refine lv_land hx hb d_La_law_291 ?_
            refine ag_topl (fun y114 ey114 => ?_)
            refine lv_lor hx hb d_La_law_292 ?_
            refine ag_topl (fun y115 ey115 => ?_)
            refine va_calli (vx_runSW (As := [.ref (aw_r ad 0), .int (nI j), .int (nI k), .long y115]) (rest := []) ⟨hx, hb, hml, hown, hG⟩ (k_La_mode1V l hst D g ad N0 zG zO zX zY zA zB zM zI zL zK zN zF zQ j k y115 hj (by omega) (by omega)) (aw_wW 4 hG gw_5_23 gw_5_21 gw_0_0 gw_5_22 rfl rfl hd_La_mode ⟨Nat.le_of_ble_eq_true rfl, Nat.le_of_ble_eq_true rfl⟩) (ag_qS hP hD hSh hU hS) rfl rfl hl.1 rfl (lv_room (Nat.le_of_ble_eq_true rfl)) d_La_law_293 ⟨by omega, by omega⟩) hS (fun _ _ h => h) (fun _ h => h) ?_
            clear hP hD hSh hS
            intro x116 u8 t8 H locs ht _ ex116 hB _ _ hS
            obtain ⟨L, hP, hD, hSh⟩ := hB
            rw [ht] at hP
            clear ht
            subst ex116
            obtain ⟨zG117, ezG117⟩ : ∃ z : Nat → Nat × Nat, v_La_mode1V_zG zG zX zY j k y115 = z := ⟨_, rfl⟩
            rw [ezG117] at hSh
            obtain ⟨zX118, ezX118⟩ : ∃ z : Nat → Nat → Int64, v_La_mode1V_zX zG zX zY j k y115 = z := ⟨_, rfl⟩
            rw [ezX118] at hSh
            obtain ⟨zY119, ezY119⟩ : ∃ z : Nat → Nat → Int32, v_La_mode1V_zY zG zX zY j k y115 = z := ⟨_, rfl⟩
            rw [ezY119] at hSh
            refine lv_istore hx hb d_La_law_296 hl (by decide) rfl (fun ls hl => ?_)
            have hl : lv_has ls 8 [(5, .int (nI 0)), (0, .ref b), (1, .ref (aw_r ad 0)), (2, .ref (aw_m ad 0)), (3, .ref (aw_o ad)), (4, .int (nI (6 * t)))] := hl
            refine lv_aload_n hx hb d_La_law_298 rfl (lv_at hl 3 rfl) ?_
            refine lv_aload_n hx hb d_La_law_299 rfl (lv_at hl 1 rfl) ?_
            refine lv_iload hx hb d_La_law_300 (lv_at hl 5 rfl) ?_
            refine lv_iconst (v := nI 1) hx hb d_La_law_302 (by decide +kernel) ?_
            refine lv_iadd hx hb d_La_law_303 ?_
            refine aw_ti (nI_add (6 * t) 1) ?_
            refine va_sld hx hb hX hbl hbA hS (i := (nI ((6 * t) + 1))) (vp_in_nI (by omega) (by omega)) d_La_law_304 ?_
            refine aw_ti (y := nI j) (by rw [nI_clamp (by omega)]; exact hc0.symm) ?_
            refine lv_aload_n hx hb d_La_law_305 rfl (lv_at hl 1 rfl) ?_
            refine lv_iload hx hb d_La_law_306 (lv_at hl 5 rfl) ?_
            refine lv_iconst (v := nI 2) hx hb d_La_law_308 (by decide +kernel) ?_
            refine lv_iadd hx hb d_La_law_309 ?_
            refine aw_ti (nI_add (6 * t) 2) ?_
            refine va_sld hx hb hX hbl hbA hS (i := (nI ((6 * t) + 2))) (vp_in_nI (by omega) (by omega)) d_La_law_310 ?_
            refine aw_ti (y := nI k) (by rw [nI_clamp (by omega)]; exact hk0.symm) ?_
            refine lv_aload_n hx hb d_La_law_311 rfl (lv_at hl 1 rfl) ?_
            refine lv_iload hx hb d_La_law_312 (lv_at hl 5 rfl) ?_
            refine lv_iconst (v := nI 3) hx hb d_La_law_314 (by decide +kernel) ?_
            refine lv_iadd hx hb d_La_law_315 ?_
            refine aw_ti (nI_add (6 * t) 3) ?_
            refine va_sld hx hb hX hbl hbA hS (i := (nI ((6 * t) + 3))) (vp_in_nI (by omega) (by omega)) d_La_law_316 ?_
            refine aw_ti (y := s3) (by rw [nI_clamp (by omega)]; exact hs3.symm) ?_
            refine lv_i2l hx hb d_La_law_317 rfl ?_
            refine ag_topl (fun y120 ey120 => ?_)
            refine lv_bipush (v := nI 32) hx hb d_La_law_318 (by decide +kernel) ?_
            refine lv_lshl hx hb d_La_law_320 rfl ?_
            refine ag_topl (fun y121 ey121 => ?_)
            refine lv_aload_n hx hb d_La_law_321 rfl (lv_at hl 1 rfl) ?_
            refine lv_iload hx hb d_La_law_322 (lv_at hl 5 rfl) ?_
            refine lv_iconst (v := nI 4) hx hb d_La_law_324 (by decide +kernel) ?_
            refine lv_iadd hx hb d_La_law_325 ?_
            refine aw_ti (nI_add (6 * t) 4) ?_
            refine va_sld hx hb hX hbl hbA hS (i := (nI ((6 * t) + 4))) (vp_in_nI (by omega) (by omega)) d_La_law_326 ?_
            refine aw_ti (y := s4) (by rw [nI_clamp (by omega)]; exact hs4.symm) ?_
            refine lv_i2l hx hb d_La_law_327 rfl ?_
            refine ag_topl (fun y122 ey122 => ?_)
            refine lv_ldc2 (v := 4294967295) hx hb hown (hG _ gw_13_3) d_La_law_328 ?_
            refine lv_land hx hb d_La_law_331 ?_
            refine ag_topl (fun y123 ey123 => ?_)
            refine lv_lor hx hb d_La_law_332 ?_
            refine ag_topl (fun y124 ey124 => ?_)
            obtain ⟨_, he125⟩ := zr_M0 hSh
            refine va_callv (va_runV (As := [.int (nI j), .int (nI k), .long y124]) (rest := []) ⟨hx, hb, hml, hown, hG⟩ (k_Mo_mode1V l D g ad N0 zG117 zO zX118 zY119 zA zB zM zI zL zK zN zF zQ j k y124 hj (by omega) (by omega)) (aw_wV 3 hG gw_10_45 gw_10_42 gw_0_10 gw_10_43 gw_10_44 rfl rfl hd_Mo_mode ⟨Nat.le_of_ble_eq_true rfl, Nat.le_of_ble_eq_true rfl⟩) (ag_qV (va_recv hK hP rfl he125) hP hD hSh hU hS) rfl rfl hl.1 rfl (lv_room (Nat.le_of_ble_eq_true rfl)) d_La_law_333 ⟨by omega, by omega⟩) hS (fun _ _ h => h) (fun _ h => h) ?_
            clear hP hD hSh hS he125
            intro u8 t8 H locs ht _ _ hB _ _ hS
            obtain ⟨L, hP, hD, hSh⟩ := hB
            rw [ht] at hP
            clear ht
            obtain ⟨zM126, ezM126⟩ : ∃ z : Nat → Nat × Nat, v_Mo_mode1V_zM zM zI zL j k y124 = z := ⟨_, rfl⟩
            rw [ezM126] at hSh
            obtain ⟨zI127, ezI127⟩ : ∃ z : Nat → Nat → Int32, v_Mo_mode1V_zI zM zI zL j k y124 = z := ⟨_, rfl⟩
            rw [ezI127] at hSh
            obtain ⟨zL128, ezL128⟩ : ∃ z : Nat → Nat → Int64, v_Mo_mode1V_zL zM zI zL j k y124 = z := ⟨_, rfl⟩
            rw [ezL128] at hSh
            refine lv_goto (tgt := 854) hx hb d_La_law_336 (by decide) ?_
            refine lv_iinc (k := 5) (v := nI (6 * t + 6)) hx hb d_La_law_854 hl rfl (aw_inc (6 * t) 6 6 (by decide +kernel)) (by decide) rfl (fun ls hl => ?_)
            have hl : lv_has ls 8 [(4, .int (nI (6 * t + 6))), (5, .int (nI 0)), (0, .ref b), (1, .ref (aw_r ad 0)), (2, .ref (aw_m ad 0)), (3, .ref (aw_o ad))] := hl
            refine lv_goto (tgt := 23) hx hb d_La_law_857 (by decide) ?_
            have hl := lv_sub hl (l' := [(0, .ref b), (1, .ref (aw_r ad 0)), (2, .ref (aw_m ad 0)), (3, .ref (aw_o ad)), (4, .int (nI (6 * t + 6)))]) [2, 3, 4, 5, 0] rfl
            refine W.widen (k := 85 + (t + 1)) (n := 1246 + 6 * (t + 1)) (by omega) (by omega) ?_
            have hR : az_R zG117 zO zX118 zY119 zA zB zM126 zI127 zL128 := by
              subst ezL128 ezI127 ezM126 ey124 ey123 ey122 ey121 ey120 ezY119 ezX118 ezG117 ey115 ey114 ey113 ey112 ey111
              exact r_mode1 hR hj hk hs
            exact ih (t + 1) zG117 zO zX118 zY119 zA zB zM126 zI127 zL128 zK zN (nI 0) zQ _ _ L ls (by omega) hP hD hSh hR hS (by first | exact hl | simpa [Nat.mul_add] using hl)
          · refine lv_aload_n hx hb d_La_law_258 rfl (lv_at hl 1 rfl) ?_
            refine lv_aload_n hx hb d_La_law_259 rfl (lv_at hl 0 rfl) ?_
            refine lv_iload hx hb d_La_law_260 (lv_at hl 4 rfl) ?_
            refine lv_iconst (v := nI 1) hx hb d_La_law_262 (by decide +kernel) ?_
            refine lv_iadd hx hb d_La_law_263 ?_
            refine aw_ti (nI_add (6 * t) 1) ?_
            refine va_sld hx hb hX hbl hbA hS (i := (nI ((6 * t) + 1))) (vp_in_nI (by omega) (by omega)) d_La_law_264 ?_
            refine aw_ti (y := nI j) (by rw [nI_clamp (by omega)]; exact hc0.symm) ?_
            refine lv_aload_n hx hb d_La_law_265 rfl (lv_at hl 0 rfl) ?_
            refine lv_iload hx hb d_La_law_266 (lv_at hl 4 rfl) ?_
            refine lv_iconst (v := nI 2) hx hb d_La_law_268 (by decide +kernel) ?_
            refine lv_iadd hx hb d_La_law_269 ?_
            refine aw_ti (nI_add (6 * t) 2) ?_
            refine va_sld hx hb hX hbl hbA hS (i := (nI ((6 * t) + 2))) (vp_in_nI (by omega) (by omega)) d_La_law_270 ?_
            refine aw_ti (y := nI k) (by rw [nI_clamp (by omega)]; exact hk0.symm) ?_
            refine lv_aload_n hx hb d_La_law_271 rfl (lv_at hl 0 rfl) ?_
            refine lv_iload hx hb d_La_law_272 (lv_at hl 4 rfl) ?_
            refine lv_iconst (v := nI 3) hx hb d_La_law_274 (by decide +kernel) ?_
            refine lv_iadd hx hb d_La_law_275 ?_
            refine aw_ti (nI_add (6 * t) 3) ?_
            refine va_sld hx hb hX hbl hbA hS (i := (nI ((6 * t) + 3))) (vp_in_nI (by omega) (by omega)) d_La_law_276 ?_
            refine aw_ti (y := s3) (by rw [nI_clamp (by omega)]; exact hs3.symm) ?_
            refine lv_i2l hx hb d_La_law_277 rfl ?_
            refine ag_topl (fun y129 ey129 => ?_)
            refine lv_bipush (v := nI 32) hx hb d_La_law_278 (by decide +kernel) ?_
            refine lv_lshl hx hb d_La_law_280 rfl ?_
            refine ag_topl (fun y130 ey130 => ?_)
            refine lv_aload_n hx hb d_La_law_281 rfl (lv_at hl 0 rfl) ?_
            refine lv_iload hx hb d_La_law_282 (lv_at hl 4 rfl) ?_
            refine lv_iconst (v := nI 4) hx hb d_La_law_284 (by decide +kernel) ?_
            refine lv_iadd hx hb d_La_law_285 ?_
            refine aw_ti (nI_add (6 * t) 4) ?_
            refine va_sld hx hb hX hbl hbA hS (i := (nI ((6 * t) + 4))) (vp_in_nI (by omega) (by omega)) d_La_law_286 ?_
            refine aw_ti (y := s4) (by rw [nI_clamp (by omega)]; exact hs4.symm) ?_
            refine lv_i2l hx hb d_La_law_287 rfl ?_
            refine ag_topl (fun y131 ey131 => ?_)
            refine lv_ldc2 (v := 4294967295) hx hb hown (hG _ gw_13_3) d_La_law_288 ?_
            refine lv_land hx hb d_La_law_291 ?_
            refine ag_topl (fun y132 ey132 => ?_)
            refine lv_lor hx hb d_La_law_292 ?_
            refine ag_topl (fun y133 ey133 => ?_)
            refine va_calli (vx_runSW (As := [.ref (aw_r ad 0), .int (nI j), .int (nI k), .long y133]) (rest := []) ⟨hx, hb, hml, hown, hG⟩ (k_La_modeXsV l hst D g ad N0 zG zO zX zY zA zB zM zI zL zK zN zF zQ j k y133 hj (by omega) (by omega)) (aw_wW 4 hG gw_5_23 gw_5_21 gw_0_0 gw_5_22 rfl rfl hd_La_mode ⟨Nat.le_of_ble_eq_true rfl, Nat.le_of_ble_eq_true rfl⟩) (ag_qS hP hD hSh hU hS) rfl rfl hl.1 rfl (lv_room (Nat.le_of_ble_eq_true rfl)) d_La_law_293 ⟨by omega, by omega⟩) hS (fun _ _ h => h) (fun _ h => h) ?_
            clear hP hD hSh hS
            intro x134 u8 t8 H locs ht _ ex134 hB _ _ hS
            obtain ⟨L, hP, hD, hSh⟩ := hB
            rw [ht] at hP
            clear ht
            subst ex134
            refine lv_istore hx hb d_La_law_296 hl (by decide) rfl (fun ls hl => ?_)
            have hl : lv_has ls 8 [(5, .int (nI 3)), (0, .ref b), (1, .ref (aw_r ad 0)), (2, .ref (aw_m ad 0)), (3, .ref (aw_o ad)), (4, .int (nI (6 * t)))] := hl
            refine lv_aload_n hx hb d_La_law_298 rfl (lv_at hl 3 rfl) ?_
            refine lv_aload_n hx hb d_La_law_299 rfl (lv_at hl 1 rfl) ?_
            refine lv_iload hx hb d_La_law_300 (lv_at hl 5 rfl) ?_
            refine lv_iconst (v := nI 1) hx hb d_La_law_302 (by decide +kernel) ?_
            refine lv_iadd hx hb d_La_law_303 ?_
            refine aw_ti (nI_add (6 * t) 1) ?_
            refine va_sld hx hb hX hbl hbA hS (i := (nI ((6 * t) + 1))) (vp_in_nI (by omega) (by omega)) d_La_law_304 ?_
            refine aw_ti (y := nI j) (by rw [nI_clamp (by omega)]; exact hc0.symm) ?_
            refine lv_aload_n hx hb d_La_law_305 rfl (lv_at hl 1 rfl) ?_
            refine lv_iload hx hb d_La_law_306 (lv_at hl 5 rfl) ?_
            refine lv_iconst (v := nI 2) hx hb d_La_law_308 (by decide +kernel) ?_
            refine lv_iadd hx hb d_La_law_309 ?_
            refine aw_ti (nI_add (6 * t) 2) ?_
            refine va_sld hx hb hX hbl hbA hS (i := (nI ((6 * t) + 2))) (vp_in_nI (by omega) (by omega)) d_La_law_310 ?_
            refine aw_ti (y := nI k) (by rw [nI_clamp (by omega)]; exact hk0.symm) ?_
            refine lv_aload_n hx hb d_La_law_311 rfl (lv_at hl 1 rfl) ?_
            refine lv_iload hx hb d_La_law_312 (lv_at hl 5 rfl) ?_
            refine lv_iconst (v := nI 3) hx hb d_La_law_314 (by decide +kernel) ?_
            refine lv_iadd hx hb d_La_law_315 ?_
            refine aw_ti (nI_add (6 * t) 3) ?_
            refine va_sld hx hb hX hbl hbA hS (i := (nI ((6 * t) + 3))) (vp_in_nI (by omega) (by omega)) d_La_law_316 ?_
            refine aw_ti (y := s3) (by rw [nI_clamp (by omega)]; exact hs3.symm) ?_
            refine lv_i2l hx hb d_La_law_317 rfl ?_
            refine ag_topl (fun y135 ey135 => ?_)
            refine lv_bipush (v := nI 32) hx hb d_La_law_318 (by decide +kernel) ?_
            refine lv_lshl hx hb d_La_law_320 rfl ?_
            refine ag_topl (fun y136 ey136 => ?_)
            refine lv_aload_n hx hb d_La_law_321 rfl (lv_at hl 1 rfl) ?_
            refine lv_iload hx hb d_La_law_322 (lv_at hl 5 rfl) ?_
            refine lv_iconst (v := nI 4) hx hb d_La_law_324 (by decide +kernel) ?_
            refine lv_iadd hx hb d_La_law_325 ?_
            refine aw_ti (nI_add (6 * t) 4) ?_
            refine va_sld hx hb hX hbl hbA hS (i := (nI ((6 * t) + 4))) (vp_in_nI (by omega) (by omega)) d_La_law_326 ?_
            refine aw_ti (y := s4) (by rw [nI_clamp (by omega)]; exact hs4.symm) ?_
            refine lv_i2l hx hb d_La_law_327 rfl ?_
            refine ag_topl (fun y137 ey137 => ?_)
            refine lv_ldc2 (v := 4294967295) hx hb hown (hG _ gw_13_3) d_La_law_328 ?_
            refine lv_land hx hb d_La_law_331 ?_
            refine ag_topl (fun y138 ey138 => ?_)
            refine lv_lor hx hb d_La_law_332 ?_
            refine ag_topl (fun y139 ey139 => ?_)
            obtain ⟨_, he140⟩ := zr_M0 hSh
            refine va_callv (va_runV (As := [.int (nI j), .int (nI k), .long y139]) (rest := []) ⟨hx, hb, hml, hown, hG⟩ (k_Mo_modeXsV l D g ad N0 zG zO zX zY zA zB zM zI zL zK zN zF zQ j k y139 hj (by omega) (by omega)) (aw_wV 3 hG gw_10_45 gw_10_42 gw_0_10 gw_10_43 gw_10_44 rfl rfl hd_Mo_mode ⟨Nat.le_of_ble_eq_true rfl, Nat.le_of_ble_eq_true rfl⟩) (ag_qV (va_recv hK hP rfl he140) hP hD hSh hU hS) rfl rfl hl.1 rfl (lv_room (Nat.le_of_ble_eq_true rfl)) d_La_law_333 ⟨by omega, by omega⟩) hS (fun _ _ h => h) (fun _ h => h) ?_
            clear hP hD hSh hS he140
            intro u8 t8 H locs ht _ _ hB _ _ hS
            obtain ⟨L, hP, hD, hSh⟩ := hB
            rw [ht] at hP
            clear ht
            refine lv_goto (tgt := 854) hx hb d_La_law_336 (by decide) ?_
            refine lv_iinc (k := 5) (v := nI (6 * t + 6)) hx hb d_La_law_854 hl rfl (aw_inc (6 * t) 6 6 (by decide +kernel)) (by decide) rfl (fun ls hl => ?_)
            have hl : lv_has ls 8 [(4, .int (nI (6 * t + 6))), (5, .int (nI 3)), (0, .ref b), (1, .ref (aw_r ad 0)), (2, .ref (aw_m ad 0)), (3, .ref (aw_o ad))] := hl
            refine lv_goto (tgt := 23) hx hb d_La_law_857 (by decide) ?_
            have hl := lv_sub hl (l' := [(0, .ref b), (1, .ref (aw_r ad 0)), (2, .ref (aw_m ad 0)), (3, .ref (aw_o ad)), (4, .int (nI (6 * t + 6)))]) [2, 3, 4, 5, 0] rfl
            refine W.widen (k := 85 + (t + 1)) (n := 1246 + 6 * (t + 1)) (by omega) (by omega) ?_
            exact ih (t + 1) zG zO zX zY zA zB zM zI zL zK zN (nI 3) zQ _ _ L ls (by omega) hP hD hSh hR hS (by first | exact hl | simpa [Nat.mul_add] using hl)
    · refine aw_ti (y := nI 3) (by rw [hs3]) ?_
      refine lv_tableIn (tgt := 339) (off := 299) hx hb d_La_law_40 (by decide +kernel) (by decide +kernel) (by decide +kernel) (by decide) ?_
      obtain ⟨c0, hc0⟩ : ∃ z : Int32, z = xs (6 * t + 1) := ⟨_, rfl⟩
      rcases aw_rng 4 (by decide) c0 with hc | ⟨j, hj, rfl⟩
      · refine lv_aload_n hx hb d_La_law_339 rfl (lv_at hl 1 rfl) ?_
        refine lv_aload_n hx hb d_La_law_340 rfl (lv_at hl 0 rfl) ?_
        refine lv_iload hx hb d_La_law_341 (lv_at hl 4 rfl) ?_
        refine lv_iconst (v := nI 1) hx hb d_La_law_343 (by decide +kernel) ?_
        refine lv_iadd hx hb d_La_law_344 ?_
        refine aw_ti (nI_add (6 * t) 1) ?_
        refine va_sld hx hb hX hbl hbA hS (i := (nI ((6 * t) + 1))) (vp_in_nI (by omega) (by omega)) d_La_law_345 ?_
        refine aw_ti (y := c0) (by rw [nI_clamp (by omega)]; exact hc0.symm) ?_
        refine va_calli (vx_runSW (As := [.ref (aw_r ad 0), .int c0]) (rest := []) ⟨hx, hb, hml, hown, hG⟩ (k_La_freeXcV l hst D g ad N0 zG zO zX zY zA zB zM zI zL zK zN zF zQ c0 hc) (aw_wW 2 hG gw_5_41 gw_5_39 gw_0_0 gw_5_40 rfl rfl hd_La_free ⟨Nat.le_of_ble_eq_true rfl, Nat.le_of_ble_eq_true rfl⟩) (ag_qS hP hD hSh hU hS) rfl rfl hl.1 rfl (lv_room (Nat.le_of_ble_eq_true rfl)) d_La_law_346 ⟨by omega, by omega⟩) hS (fun _ _ h => h) (fun _ h => h) ?_
        clear hP hD hSh hS
        intro x141 u8 t8 H locs ht _ ex141 hB _ _ hS
        obtain ⟨L, hP, hD, hSh⟩ := hB
        rw [ht] at hP
        clear ht
        subst ex141
        refine lv_istore hx hb d_La_law_349 hl (by decide) rfl (fun ls hl => ?_)
        have hl : lv_has ls 8 [(5, .int (nI 1)), (0, .ref b), (1, .ref (aw_r ad 0)), (2, .ref (aw_m ad 0)), (3, .ref (aw_o ad)), (4, .int (nI (6 * t)))] := hl
        refine lv_aload_n hx hb d_La_law_351 rfl (lv_at hl 3 rfl) ?_
        refine lv_aload_n hx hb d_La_law_352 rfl (lv_at hl 1 rfl) ?_
        refine lv_iload hx hb d_La_law_353 (lv_at hl 5 rfl) ?_
        refine lv_iconst (v := nI 1) hx hb d_La_law_355 (by decide +kernel) ?_
        refine lv_iadd hx hb d_La_law_356 ?_
        refine aw_ti (nI_add (6 * t) 1) ?_
        refine va_sld hx hb hX hbl hbA hS (i := (nI ((6 * t) + 1))) (vp_in_nI (by omega) (by omega)) d_La_law_357 ?_
        refine aw_ti (y := c0) (by rw [nI_clamp (by omega)]; exact hc0.symm) ?_
        obtain ⟨_, he142⟩ := zr_M0 hSh
        refine va_callv (va_runV (As := [.int c0]) (rest := []) ⟨hx, hb, hml, hown, hG⟩ (k_Mo_freeXcV l D g ad N0 zG zO zX zY zA zB zM zI zL zK zN zF zQ c0 hc) (aw_wV 1 hG gw_10_55 gw_10_52 gw_0_10 gw_10_53 gw_10_54 rfl rfl hd_Mo_free ⟨Nat.le_of_ble_eq_true rfl, Nat.le_of_ble_eq_true rfl⟩) (ag_qV (va_recv hK hP rfl he142) hP hD hSh hU hS) rfl rfl hl.1 rfl (lv_room (Nat.le_of_ble_eq_true rfl)) d_La_law_358 ⟨by omega, by omega⟩) hS (fun _ _ h => h) (fun _ h => h) ?_
        clear hP hD hSh hS he142
        intro u8 t8 H locs ht _ _ hB _ _ hS
        obtain ⟨L, hP, hD, hSh⟩ := hB
        rw [ht] at hP
        clear ht
        refine lv_goto (tgt := 854) hx hb d_La_law_361 (by decide) ?_
        refine lv_iinc (k := 5) (v := nI (6 * t + 6)) hx hb d_La_law_854 hl rfl (aw_inc (6 * t) 6 6 (by decide +kernel)) (by decide) rfl (fun ls hl => ?_)
        have hl : lv_has ls 8 [(4, .int (nI (6 * t + 6))), (5, .int (nI 1)), (0, .ref b), (1, .ref (aw_r ad 0)), (2, .ref (aw_m ad 0)), (3, .ref (aw_o ad))] := hl
        refine lv_goto (tgt := 23) hx hb d_La_law_857 (by decide) ?_
        have hl := lv_sub hl (l' := [(0, .ref b), (1, .ref (aw_r ad 0)), (2, .ref (aw_m ad 0)), (3, .ref (aw_o ad)), (4, .int (nI (6 * t + 6)))]) [2, 3, 4, 5, 0] rfl
        refine W.widen (k := 85 + (t + 1)) (n := 1246 + 6 * (t + 1)) (by omega) (by omega) ?_
        exact ih (t + 1) zG zO zX zY zA zB zM zI zL zK zN (nI 1) zQ _ _ L ls (by omega) hP hD hSh hR hS (by first | exact hl | simpa [Nat.mul_add] using hl)
      · have hgj := hSh.2.2.2.2.1 j hj
        have hq1 : (zM j).1 = (zG j).1 := by rw [hR.1 j hj]
        have hq2 : (zM j).2 = (zG j).2 := by rw [hR.1 j hj]
        refine lv_aload_n hx hb d_La_law_339 rfl (lv_at hl 1 rfl) ?_
        refine lv_aload_n hx hb d_La_law_340 rfl (lv_at hl 0 rfl) ?_
        refine lv_iload hx hb d_La_law_341 (lv_at hl 4 rfl) ?_
        refine lv_iconst (v := nI 1) hx hb d_La_law_343 (by decide +kernel) ?_
        refine lv_iadd hx hb d_La_law_344 ?_
        refine aw_ti (nI_add (6 * t) 1) ?_
        refine va_sld hx hb hX hbl hbA hS (i := (nI ((6 * t) + 1))) (vp_in_nI (by omega) (by omega)) d_La_law_345 ?_
        refine aw_ti (y := nI j) (by rw [nI_clamp (by omega)]; exact hc0.symm) ?_
        refine va_calli (vx_runSW (As := [.ref (aw_r ad 0), .int (nI j)]) (rest := []) ⟨hx, hb, hml, hown, hG⟩ (k_La_free1V l hst D g ad N0 zG zO zX zY zA zB zM zI zL zK zN zF zQ j hj) (aw_wW 2 hG gw_5_41 gw_5_39 gw_0_0 gw_5_40 rfl rfl hd_La_free ⟨Nat.le_of_ble_eq_true rfl, Nat.le_of_ble_eq_true rfl⟩) (ag_qS hP hD hSh hU hS) rfl rfl hl.1 rfl (lv_room (Nat.le_of_ble_eq_true rfl)) d_La_law_346 ⟨by omega, by omega⟩) hS (fun _ _ h => h) (fun _ h => h) ?_
        clear hP hD hSh hS
        intro x143 u8 t8 H locs ht _ ex143 hB _ _ hS
        obtain ⟨L, hP, hD, hSh⟩ := hB
        rw [ht] at hP
        clear ht
        subst ex143
        obtain ⟨zG144, ezG144⟩ : ∃ z : Nat → Nat × Nat, v_La_free1V_zG zG j = z := ⟨_, rfl⟩
        rw [ezG144] at hSh
        refine lv_istore hx hb d_La_law_349 hl (by decide) rfl (fun ls hl => ?_)
        have hl : lv_has ls 8 [(5, .int (nI 0)), (0, .ref b), (1, .ref (aw_r ad 0)), (2, .ref (aw_m ad 0)), (3, .ref (aw_o ad)), (4, .int (nI (6 * t)))] := hl
        refine lv_aload_n hx hb d_La_law_351 rfl (lv_at hl 3 rfl) ?_
        refine lv_aload_n hx hb d_La_law_352 rfl (lv_at hl 1 rfl) ?_
        refine lv_iload hx hb d_La_law_353 (lv_at hl 5 rfl) ?_
        refine lv_iconst (v := nI 1) hx hb d_La_law_355 (by decide +kernel) ?_
        refine lv_iadd hx hb d_La_law_356 ?_
        refine aw_ti (nI_add (6 * t) 1) ?_
        refine va_sld hx hb hX hbl hbA hS (i := (nI ((6 * t) + 1))) (vp_in_nI (by omega) (by omega)) d_La_law_357 ?_
        refine aw_ti (y := nI j) (by rw [nI_clamp (by omega)]; exact hc0.symm) ?_
        obtain ⟨_, he145⟩ := zr_M0 hSh
        refine va_callv (va_runV (As := [.int (nI j)]) (rest := []) ⟨hx, hb, hml, hown, hG⟩ (k_Mo_free1V l D g ad N0 zG144 zO zX zY zA zB zM zI zL zK zN zF zQ j hj) (aw_wV 1 hG gw_10_55 gw_10_52 gw_0_10 gw_10_53 gw_10_54 rfl rfl hd_Mo_free ⟨Nat.le_of_ble_eq_true rfl, Nat.le_of_ble_eq_true rfl⟩) (ag_qV (va_recv hK hP rfl he145) hP hD hSh hU hS) rfl rfl hl.1 rfl (lv_room (Nat.le_of_ble_eq_true rfl)) d_La_law_358 ⟨by omega, by omega⟩) hS (fun _ _ h => h) (fun _ h => h) ?_
        clear hP hD hSh hS he145
        intro u8 t8 H locs ht _ _ hB _ _ hS
        obtain ⟨L, hP, hD, hSh⟩ := hB
        rw [ht] at hP
        clear ht
        obtain ⟨zM146, ezM146⟩ : ∃ z : Nat → Nat × Nat, v_Mo_free1V_zM zM zI j = z := ⟨_, rfl⟩
        rw [ezM146] at hSh
        obtain ⟨zI147, ezI147⟩ : ∃ z : Nat → Nat → Int32, v_Mo_free1V_zI zM zI j = z := ⟨_, rfl⟩
        rw [ezI147] at hSh
        refine lv_goto (tgt := 854) hx hb d_La_law_361 (by decide) ?_
        refine lv_iinc (k := 5) (v := nI (6 * t + 6)) hx hb d_La_law_854 hl rfl (aw_inc (6 * t) 6 6 (by decide +kernel)) (by decide) rfl (fun ls hl => ?_)
        have hl : lv_has ls 8 [(4, .int (nI (6 * t + 6))), (5, .int (nI 0)), (0, .ref b), (1, .ref (aw_r ad 0)), (2, .ref (aw_m ad 0)), (3, .ref (aw_o ad))] := hl
        refine lv_goto (tgt := 23) hx hb d_La_law_857 (by decide) ?_
        have hl := lv_sub hl (l' := [(0, .ref b), (1, .ref (aw_r ad 0)), (2, .ref (aw_m ad 0)), (3, .ref (aw_o ad)), (4, .int (nI (6 * t + 6)))]) [2, 3, 4, 5, 0] rfl
        refine W.widen (k := 85 + (t + 1)) (n := 1246 + 6 * (t + 1)) (by omega) (by omega) ?_
        have hR : az_R zG144 zO zX zY zA zB zM146 zI147 zL := by
          subst ezI147 ezM146 ezG144
          exact r_free1 hR hj
        exact ih (t + 1) zG144 zO zX zY zA zB zM146 zI147 zL zK zN (nI 0) zQ _ _ L ls (by omega) hP hD hSh hR hS (by first | exact hl | simpa [Nat.mul_add] using hl)
    · refine aw_ti (y := nI 4) (by rw [hs3]) ?_
      refine lv_tableIn (tgt := 364) (off := 324) hx hb d_La_law_40 (by decide +kernel) (by decide +kernel) (by decide +kernel) (by decide) ?_
      obtain ⟨c0, hc0⟩ : ∃ z : Int32, z = xs (6 * t + 1) := ⟨_, rfl⟩
      rcases aw_rng 4 (by decide) c0 with hc | ⟨j, hj, rfl⟩
      · refine lv_aload_n hx hb d_La_law_364 rfl (lv_at hl 1 rfl) ?_
        refine lv_aload_n hx hb d_La_law_365 rfl (lv_at hl 0 rfl) ?_
        refine lv_iload hx hb d_La_law_366 (lv_at hl 4 rfl) ?_
        refine lv_iconst (v := nI 1) hx hb d_La_law_368 (by decide +kernel) ?_
        refine lv_iadd hx hb d_La_law_369 ?_
        refine aw_ti (nI_add (6 * t) 1) ?_
        refine va_sld hx hb hX hbl hbA hS (i := (nI ((6 * t) + 1))) (vp_in_nI (by omega) (by omega)) d_La_law_370 ?_
        refine aw_ti (y := c0) (by rw [nI_clamp (by omega)]; exact hc0.symm) ?_
        refine lv_aload_n hx hb d_La_law_371 rfl (lv_at hl 3 rfl) ?_
        refine va_calli (vx_runSW (As := [.ref (aw_r ad 0), .int c0, .ref (aw_o ad)]) (rest := []) ⟨hx, hb, hml, hown, hG⟩ (k_La_stageXcV l hst D g ad N0 zG zO zX zY zA zB zM zI zL zK zN zF zQ c0 hc) (aw_wW 3 hG gw_5_48 gw_5_46 gw_0_0 gw_5_47 rfl rfl hd_La_stage ⟨Nat.le_of_ble_eq_true rfl, Nat.le_of_ble_eq_true rfl⟩) (ag_qS hP hD hSh hU hS) rfl rfl hl.1 rfl (lv_room (Nat.le_of_ble_eq_true rfl)) d_La_law_372 ⟨by omega, by omega⟩) hS (fun _ _ h => h) (fun _ h => h) ?_
        clear hP hD hSh hS
        intro x148 u8 t8 H locs ht _ ex148 hB _ _ hS
        obtain ⟨L, hP, hD, hSh⟩ := hB
        rw [ht] at hP
        clear ht
        subst ex148
        refine lv_istore hx hb d_La_law_375 hl (by decide) rfl (fun ls hl => ?_)
        have hl : lv_has ls 8 [(5, .int (nI 1)), (0, .ref b), (1, .ref (aw_r ad 0)), (2, .ref (aw_m ad 0)), (3, .ref (aw_o ad)), (4, .int (nI (6 * t)))] := hl
        refine lv_aload_n hx hb d_La_law_377 rfl (lv_at hl 3 rfl) ?_
        refine lv_aload_n hx hb d_La_law_378 rfl (lv_at hl 1 rfl) ?_
        refine lv_iload hx hb d_La_law_379 (lv_at hl 5 rfl) ?_
        refine lv_iconst (v := nI 1) hx hb d_La_law_381 (by decide +kernel) ?_
        refine lv_iadd hx hb d_La_law_382 ?_
        refine aw_ti (nI_add (6 * t) 1) ?_
        refine va_sld hx hb hX hbl hbA hS (i := (nI ((6 * t) + 1))) (vp_in_nI (by omega) (by omega)) d_La_law_383 ?_
        refine aw_ti (y := c0) (by rw [nI_clamp (by omega)]; exact hc0.symm) ?_
        obtain ⟨_, he149⟩ := zr_M0 hSh
        refine va_calli (va_runV (As := [.int c0]) (rest := []) ⟨hx, hb, hml, hown, hG⟩ (k_Mo_stageXcV l D g ad N0 zG zO zX zY zA zB zM zI zL zK zN zF zQ c0 hc) (aw_wV 1 hG gw_10_59 gw_10_56 gw_0_10 gw_10_57 gw_10_58 rfl rfl hd_Mo_stage ⟨Nat.le_of_ble_eq_true rfl, Nat.le_of_ble_eq_true rfl⟩) (ag_qV (va_recv hK hP rfl he149) hP hD hSh hU hS) rfl rfl hl.1 rfl (lv_room (Nat.le_of_ble_eq_true rfl)) d_La_law_384 ⟨by omega, by omega⟩) hS (fun _ _ h => h) (fun _ h => h) ?_
        clear hP hD hSh hS he149
        intro x150 u8 t8 H locs ht _ ex150 hB _ _ hS
        obtain ⟨L, hP, hD, hSh⟩ := hB
        rw [ht] at hP
        clear ht
        have ex150 := ex150.symm
        refine lv_istore hx hb d_La_law_387 hl (by decide) rfl (fun ls hl => ?_)
        have hl : lv_has ls 8 [(6, .int x150), (5, .int (nI 1)), (0, .ref b), (1, .ref (aw_r ad 0)), (2, .ref (aw_m ad 0)), (3, .ref (aw_o ad)), (4, .int (nI (6 * t)))] := hl
        refine lv_aload_n hx hb d_La_law_389 rfl (lv_at hl 4 rfl) ?_
        obtain ⟨_, he151⟩ := zr_M0 hSh
        refine va_calli (va_runV (As := []) (rest := []) ⟨hx, hb, hml, hown, hG⟩ (k_Mo_thrownV l D g ad N0 zG zO zX zY zA zB zM zI zL zK zN (nI 1) zQ) (aw_wV 0 hG gw_10_27 gw_10_24 gw_0_10 gw_10_25 gw_10_26 rfl rfl hd_Mo_thrown ⟨Nat.le_of_ble_eq_true rfl, Nat.le_of_ble_eq_true rfl⟩) (ag_qV (va_recv hK hP rfl he151) hP hD hSh hU hS) rfl rfl hl.1 rfl (lv_room (Nat.le_of_ble_eq_true rfl)) d_La_law_390 ⟨by omega, by omega⟩) hS (fun _ _ h => h) (fun _ h => h) (fun x152 u8 t8 H locs ht _ ex152 hB _ _ hS => ?_)
        obtain ⟨L, hP, hD, hSh⟩ := hB
        rw [ht] at hP
        clear ht
        have ex152 : x152 = nI 1 := ex152
        subst ex152
        refine lv_iload hx hb d_La_law_393 (lv_at hl 1 rfl) ?_
        refine lv_icmp_eq (tgt := 400) hx hb d_La_law_395 (by decide) (fun _ => ?_) (fun h => absurd (by decide +kernel) h)
        refine lv_iload hx hb d_La_law_400 (lv_at hl 1 rfl) ?_
        refine lv_if_ne (tgt := 417) hx hb d_La_law_402 (by decide) (fun _ => ?_) (fun h => absurd h (by decide +kernel))
        refine lv_goto (tgt := 854) hx hb d_La_law_417 (by decide) ?_
        refine lv_iinc (k := 6) (v := nI (6 * t + 6)) hx hb d_La_law_854 hl rfl (aw_inc (6 * t) 6 6 (by decide +kernel)) (by decide) rfl (fun ls hl => ?_)
        have hl : lv_has ls 8 [(4, .int (nI (6 * t + 6))), (6, .int x150), (5, .int (nI 1)), (0, .ref b), (1, .ref (aw_r ad 0)), (2, .ref (aw_m ad 0)), (3, .ref (aw_o ad))] := hl
        refine lv_goto (tgt := 23) hx hb d_La_law_857 (by decide) ?_
        have hl := lv_sub hl (l' := [(0, .ref b), (1, .ref (aw_r ad 0)), (2, .ref (aw_m ad 0)), (3, .ref (aw_o ad)), (4, .int (nI (6 * t + 6)))]) [3, 4, 5, 6, 0] rfl
        refine W.widen (k := 85 + (t + 1)) (n := 1246 + 6 * (t + 1)) (by omega) (by omega) ?_
        exact ih (t + 1) zG zO zX zY zA zB zM zI zL zK zN (nI 1) zQ _ _ L ls (by omega) hP hD hSh hR hS (by first | exact hl | simpa [Nat.mul_add] using hl)
      · have hgj := hSh.2.2.2.2.1 j hj
        have hq1 : (zM j).1 = (zG j).1 := by rw [hR.1 j hj]
        have hq2 : (zM j).2 = (zG j).2 := by rw [hR.1 j hj]
        refine lv_aload_n hx hb d_La_law_364 rfl (lv_at hl 1 rfl) ?_
        refine lv_aload_n hx hb d_La_law_365 rfl (lv_at hl 0 rfl) ?_
        refine lv_iload hx hb d_La_law_366 (lv_at hl 4 rfl) ?_
        refine lv_iconst (v := nI 1) hx hb d_La_law_368 (by decide +kernel) ?_
        refine lv_iadd hx hb d_La_law_369 ?_
        refine aw_ti (nI_add (6 * t) 1) ?_
        refine va_sld hx hb hX hbl hbA hS (i := (nI ((6 * t) + 1))) (vp_in_nI (by omega) (by omega)) d_La_law_370 ?_
        refine aw_ti (y := nI j) (by rw [nI_clamp (by omega)]; exact hc0.symm) ?_
        refine lv_aload_n hx hb d_La_law_371 rfl (lv_at hl 3 rfl) ?_
        refine va_calli (vx_runSW (As := [.ref (aw_r ad 0), .int (nI j), .ref (aw_o ad)]) (rest := []) ⟨hx, hb, hml, hown, hG⟩ (k_La_stage1V l hst D g ad N0 zG zO zX zY zA zB zM zI zL zK zN zF zQ j hj) (aw_wW 3 hG gw_5_48 gw_5_46 gw_0_0 gw_5_47 rfl rfl hd_La_stage ⟨Nat.le_of_ble_eq_true rfl, Nat.le_of_ble_eq_true rfl⟩) (ag_qS hP hD hSh hU hS) rfl rfl hl.1 rfl (lv_room (Nat.le_of_ble_eq_true rfl)) d_La_law_372 ⟨by omega, by omega⟩) hS (fun _ _ h => h) (fun _ h => h) ?_
        clear hP hD hSh hS
        intro x153 u8 t8 H locs ht _ ex153 hB _ _ hS
        obtain ⟨L, hP, hD, hSh⟩ := hB
        rw [ht] at hP
        clear ht
        subst ex153
        obtain ⟨zQ154, ezQ154⟩ : ∃ z : Int64, v_La_stage1V_zQ zG j = z := ⟨_, rfl⟩
        rw [ezQ154] at hSh
        refine lv_istore hx hb d_La_law_375 hl (by decide) rfl (fun ls hl => ?_)
        have hl : lv_has ls 8 [(5, .int (nI 0)), (0, .ref b), (1, .ref (aw_r ad 0)), (2, .ref (aw_m ad 0)), (3, .ref (aw_o ad)), (4, .int (nI (6 * t)))] := hl
        refine lv_aload_n hx hb d_La_law_377 rfl (lv_at hl 3 rfl) ?_
        refine lv_aload_n hx hb d_La_law_378 rfl (lv_at hl 1 rfl) ?_
        refine lv_iload hx hb d_La_law_379 (lv_at hl 5 rfl) ?_
        refine lv_iconst (v := nI 1) hx hb d_La_law_381 (by decide +kernel) ?_
        refine lv_iadd hx hb d_La_law_382 ?_
        refine aw_ti (nI_add (6 * t) 1) ?_
        refine va_sld hx hb hX hbl hbA hS (i := (nI ((6 * t) + 1))) (vp_in_nI (by omega) (by omega)) d_La_law_383 ?_
        refine aw_ti (y := nI j) (by rw [nI_clamp (by omega)]; exact hc0.symm) ?_
        obtain ⟨_, he155⟩ := zr_M0 hSh
        refine va_calli (va_runV (As := [.int (nI j)]) (rest := []) ⟨hx, hb, hml, hown, hG⟩ (k_Mo_stage1V l D g ad N0 zG zO zX zY zA zB zM zI zL zK zN zF zQ154 j hj) (aw_wV 1 hG gw_10_59 gw_10_56 gw_0_10 gw_10_57 gw_10_58 rfl rfl hd_Mo_stage ⟨Nat.le_of_ble_eq_true rfl, Nat.le_of_ble_eq_true rfl⟩) (ag_qV (va_recv hK hP rfl he155) hP hD hSh hU hS) rfl rfl hl.1 rfl (lv_room (Nat.le_of_ble_eq_true rfl)) d_La_law_384 ⟨by omega, by omega⟩) hS (fun _ _ h => h) (fun _ h => h) ?_
        clear hP hD hSh hS he155
        intro x156 u8 t8 H locs ht _ ex156 hB _ _ hS
        obtain ⟨L, hP, hD, hSh⟩ := hB
        rw [ht] at hP
        clear ht
        have ex156 := ex156.symm
        refine lv_istore hx hb d_La_law_387 hl (by decide) rfl (fun ls hl => ?_)
        have hl : lv_has ls 8 [(6, .int x156), (5, .int (nI 0)), (0, .ref b), (1, .ref (aw_r ad 0)), (2, .ref (aw_m ad 0)), (3, .ref (aw_o ad)), (4, .int (nI (6 * t)))] := hl
        refine lv_aload_n hx hb d_La_law_389 rfl (lv_at hl 4 rfl) ?_
        obtain ⟨_, he157⟩ := zr_M0 hSh
        refine va_calli (va_runV (As := []) (rest := []) ⟨hx, hb, hml, hown, hG⟩ (k_Mo_thrownV l D g ad N0 zG zO zX zY zA zB zM zI zL zK zN (nI 0) zQ154) (aw_wV 0 hG gw_10_27 gw_10_24 gw_0_10 gw_10_25 gw_10_26 rfl rfl hd_Mo_thrown ⟨Nat.le_of_ble_eq_true rfl, Nat.le_of_ble_eq_true rfl⟩) (ag_qV (va_recv hK hP rfl he157) hP hD hSh hU hS) rfl rfl hl.1 rfl (lv_room (Nat.le_of_ble_eq_true rfl)) d_La_law_390 ⟨by omega, by omega⟩) hS (fun _ _ h => h) (fun _ h => h) (fun x158 u8 t8 H locs ht _ ex158 hB _ _ hS => ?_)
        obtain ⟨L, hP, hD, hSh⟩ := hB
        rw [ht] at hP
        clear ht
        have ex158 : x158 = nI 0 := ex158
        subst ex158
        refine lv_iload hx hb d_La_law_393 (lv_at hl 1 rfl) ?_
        refine lv_icmp_eq (tgt := 400) hx hb d_La_law_395 (by decide) (fun _ => ?_) (fun h => absurd (by decide +kernel) h)
        refine lv_iload hx hb d_La_law_400 (lv_at hl 1 rfl) ?_
        refine lv_if_ne (tgt := 417) hx hb d_La_law_402 (by decide) (fun h => absurd (by decide +kernel) h) (fun _ => ?_)
        refine lv_aload_n hx hb d_La_law_405 rfl (lv_at hl 5 rfl) ?_
        refine lv_iconst (v := nI 0) hx hb d_La_law_406 (by decide +kernel) ?_
        obtain ⟨f160, hc161, he159⟩ := zr_O0 hSh
        refine aw_lld hx hb hK hP 84 1 he159 rfl (k := 0) (by omega) (by decide) d_La_law_407 ?_
        clear he159
        refine aw_tl (y := zQ154) hc161 ?_
        refine lv_iload hx hb d_La_law_408 (lv_at hl 0 rfl) ?_
        refine lv_i2l hx hb d_La_law_410 rfl ?_
        refine ag_topl (fun y162 ey162 => ?_)
        refine W.lcmp hx hb d_La_law_411 ?_
        have hcmp163 : zQ154 = y162 := by
          subst ey162 ex156 ezQ154
          exact q_stage1 hR hj
        refine aw_ti (y := nI 0) (by rw [hcmp163]; exact aw_cmps _) ?_
        refine lv_if_eq (tgt := 417) hx hb d_La_law_412 (by decide) (fun _ => ?_) (fun h => absurd (by decide +kernel) h)
        refine lv_goto (tgt := 854) hx hb d_La_law_417 (by decide) ?_
        refine lv_iinc (k := 6) (v := nI (6 * t + 6)) hx hb d_La_law_854 hl rfl (aw_inc (6 * t) 6 6 (by decide +kernel)) (by decide) rfl (fun ls hl => ?_)
        have hl : lv_has ls 8 [(4, .int (nI (6 * t + 6))), (6, .int x156), (5, .int (nI 0)), (0, .ref b), (1, .ref (aw_r ad 0)), (2, .ref (aw_m ad 0)), (3, .ref (aw_o ad))] := hl
        refine lv_goto (tgt := 23) hx hb d_La_law_857 (by decide) ?_
        have hl := lv_sub hl (l' := [(0, .ref b), (1, .ref (aw_r ad 0)), (2, .ref (aw_m ad 0)), (3, .ref (aw_o ad)), (4, .int (nI (6 * t + 6)))]) [3, 4, 5, 6, 0] rfl
        refine W.widen (k := 85 + (t + 1)) (n := 1246 + 6 * (t + 1)) (by omega) (by omega) ?_
        exact ih (t + 1) zG zO zX zY zA zB zM zI zL zK zN (nI 0) zQ154 _ _ L ls (by omega) hP hD hSh hR hS (by first | exact hl | simpa [Nat.mul_add] using hl)
    · refine aw_ti (y := nI 5) (by rw [hs3]) ?_
      refine lv_tableIn (tgt := 420) (off := 380) hx hb d_La_law_40 (by decide +kernel) (by decide +kernel) (by decide +kernel) (by decide) ?_
      obtain ⟨c0, hc0⟩ : ∃ z : Int32, z = xs (6 * t + 1) := ⟨_, rfl⟩
      obtain ⟨s2, hs2⟩ : ∃ z : Int32, z = xs (6 * t + 2) := ⟨_, rfl⟩
      obtain ⟨s3, hs3⟩ : ∃ z : Int32, z = xs (6 * t + 3) := ⟨_, rfl⟩
      obtain ⟨s4, hs4⟩ : ∃ z : Int32, z = xs (6 * t + 4) := ⟨_, rfl⟩
      rcases aw_rng 4 (by decide) c0 with hc | ⟨j, hj, rfl⟩
      · refine lv_aload_n hx hb d_La_law_420 rfl (lv_at hl 1 rfl) ?_
        refine lv_aload_n hx hb d_La_law_421 rfl (lv_at hl 0 rfl) ?_
        refine lv_iload hx hb d_La_law_422 (lv_at hl 4 rfl) ?_
        refine lv_iconst (v := nI 1) hx hb d_La_law_424 (by decide +kernel) ?_
        refine lv_iadd hx hb d_La_law_425 ?_
        refine aw_ti (nI_add (6 * t) 1) ?_
        refine va_sld hx hb hX hbl hbA hS (i := (nI ((6 * t) + 1))) (vp_in_nI (by omega) (by omega)) d_La_law_426 ?_
        refine aw_ti (y := c0) (by rw [nI_clamp (by omega)]; exact hc0.symm) ?_
        refine lv_aload_n hx hb d_La_law_427 rfl (lv_at hl 0 rfl) ?_
        refine lv_iload hx hb d_La_law_428 (lv_at hl 4 rfl) ?_
        refine lv_iconst (v := nI 2) hx hb d_La_law_430 (by decide +kernel) ?_
        refine lv_iadd hx hb d_La_law_431 ?_
        refine aw_ti (nI_add (6 * t) 2) ?_
        refine va_sld hx hb hX hbl hbA hS (i := (nI ((6 * t) + 2))) (vp_in_nI (by omega) (by omega)) d_La_law_432 ?_
        refine aw_ti (y := s2) (by rw [nI_clamp (by omega)]; exact hs2.symm) ?_
        have hj164 : ∀ x165 : Int32, (if s2 = 0 then nI 0 else nI 1) = x165 → W p l e room_1 s m #[Value.ref b] below meth c H locs (85 + t) (1246 + 6 * t) (lw_Z below #[Value.ref b] s) (F0 m 441 ls [.int x165, .int c0, .ref (aw_r ad 0)]) := by
          intro x165 ebx165
          refine lv_aload_n hx hb d_La_law_441 rfl (lv_at hl 0 rfl) ?_
          refine lv_iload hx hb d_La_law_442 (lv_at hl 4 rfl) ?_
          refine lv_iconst (v := nI 3) hx hb d_La_law_444 (by decide +kernel) ?_
          refine lv_iadd hx hb d_La_law_445 ?_
          refine aw_ti (nI_add (6 * t) 3) ?_
          refine va_sld hx hb hX hbl hbA hS (i := (nI ((6 * t) + 3))) (vp_in_nI (by omega) (by omega)) d_La_law_446 ?_
          refine aw_ti (y := s3) (by rw [nI_clamp (by omega)]; exact hs3.symm) ?_
          refine lv_i2l hx hb d_La_law_447 rfl ?_
          refine ag_topl (fun y166 ey166 => ?_)
          refine lv_bipush (v := nI 32) hx hb d_La_law_448 (by decide +kernel) ?_
          refine lv_lshl hx hb d_La_law_450 rfl ?_
          refine ag_topl (fun y167 ey167 => ?_)
          refine lv_aload_n hx hb d_La_law_451 rfl (lv_at hl 0 rfl) ?_
          refine lv_iload hx hb d_La_law_452 (lv_at hl 4 rfl) ?_
          refine lv_iconst (v := nI 4) hx hb d_La_law_454 (by decide +kernel) ?_
          refine lv_iadd hx hb d_La_law_455 ?_
          refine aw_ti (nI_add (6 * t) 4) ?_
          refine va_sld hx hb hX hbl hbA hS (i := (nI ((6 * t) + 4))) (vp_in_nI (by omega) (by omega)) d_La_law_456 ?_
          refine aw_ti (y := s4) (by rw [nI_clamp (by omega)]; exact hs4.symm) ?_
          refine lv_i2l hx hb d_La_law_457 rfl ?_
          refine ag_topl (fun y168 ey168 => ?_)
          refine lv_ldc2 (v := 4294967295) hx hb hown (hG _ gw_13_3) d_La_law_458 ?_
          refine lv_land hx hb d_La_law_461 ?_
          refine ag_topl (fun y169 ey169 => ?_)
          refine lv_lor hx hb d_La_law_462 ?_
          refine ag_topl (fun y170 ey170 => ?_)
          refine lv_aload_n hx hb d_La_law_463 rfl (lv_at hl 3 rfl) ?_
          refine va_calli (vx_runSW (As := [.ref (aw_r ad 0), .int c0, .int x165, .long y170, .ref (aw_o ad)]) (rest := []) ⟨hx, hb, hml, hown, hG⟩ (k_La_blockXcV l hst D g ad N0 zG zO zX zY zA zB zM zI zL zK zN zF zQ c0 x165 y170 hc) (aw_wW 5 hG gw_5_55 gw_5_53 gw_0_0 gw_5_54 rfl rfl hd_La_block ⟨Nat.le_of_ble_eq_true rfl, Nat.le_of_ble_eq_true rfl⟩) (ag_qS hP hD hSh hU hS) rfl rfl hl.1 rfl (lv_room (Nat.le_of_ble_eq_true rfl)) d_La_law_464 ⟨by omega, by omega⟩) hS (fun _ _ h => h) (fun _ h => h) ?_
          clear hP hD hSh hS
          intro x171 u8 t8 H locs ht _ ex171 hB _ _ hS
          obtain ⟨L, hP, hD, hSh⟩ := hB
          rw [ht] at hP
          clear ht
          subst ex171
          refine lv_istore hx hb d_La_law_467 hl (by decide) rfl (fun ls hl => ?_)
          have hl : lv_has ls 8 [(5, .int (nI 1)), (0, .ref b), (1, .ref (aw_r ad 0)), (2, .ref (aw_m ad 0)), (3, .ref (aw_o ad)), (4, .int (nI (6 * t)))] := hl
          refine lv_aload_n hx hb d_La_law_469 rfl (lv_at hl 3 rfl) ?_
          refine lv_aload_n hx hb d_La_law_470 rfl (lv_at hl 1 rfl) ?_
          refine lv_iload hx hb d_La_law_471 (lv_at hl 5 rfl) ?_
          refine lv_iconst (v := nI 1) hx hb d_La_law_473 (by decide +kernel) ?_
          refine lv_iadd hx hb d_La_law_474 ?_
          refine aw_ti (nI_add (6 * t) 1) ?_
          refine va_sld hx hb hX hbl hbA hS (i := (nI ((6 * t) + 1))) (vp_in_nI (by omega) (by omega)) d_La_law_475 ?_
          refine aw_ti (y := c0) (by rw [nI_clamp (by omega)]; exact hc0.symm) ?_
          refine lv_aload_n hx hb d_La_law_476 rfl (lv_at hl 1 rfl) ?_
          refine lv_iload hx hb d_La_law_477 (lv_at hl 5 rfl) ?_
          refine lv_iconst (v := nI 2) hx hb d_La_law_479 (by decide +kernel) ?_
          refine lv_iadd hx hb d_La_law_480 ?_
          refine aw_ti (nI_add (6 * t) 2) ?_
          refine va_sld hx hb hX hbl hbA hS (i := (nI ((6 * t) + 2))) (vp_in_nI (by omega) (by omega)) d_La_law_481 ?_
          refine aw_ti (y := s2) (by rw [nI_clamp (by omega)]; exact hs2.symm) ?_
          have hj172 : ∀ x173 : Int32, (if s2 = 0 then nI 0 else nI 1) = x173 → W p l e room_1 s m #[Value.ref b] below meth c H locs ((85 + t) + 1) ((1246 + 6 * t) + 6) (lw_Z below #[Value.ref b] s) (F0 m 490 ls [.int x173, .int c0, .ref (aw_m ad 0)]) := by
            intro x173 ebx173
            refine lv_aload_n hx hb d_La_law_490 rfl (lv_at hl 1 rfl) ?_
            refine lv_iload hx hb d_La_law_491 (lv_at hl 5 rfl) ?_
            refine lv_iconst (v := nI 3) hx hb d_La_law_493 (by decide +kernel) ?_
            refine lv_iadd hx hb d_La_law_494 ?_
            refine aw_ti (nI_add (6 * t) 3) ?_
            refine va_sld hx hb hX hbl hbA hS (i := (nI ((6 * t) + 3))) (vp_in_nI (by omega) (by omega)) d_La_law_495 ?_
            refine aw_ti (y := s3) (by rw [nI_clamp (by omega)]; exact hs3.symm) ?_
            refine lv_i2l hx hb d_La_law_496 rfl ?_
            refine ag_topl (fun y174 ey174 => ?_)
            refine lv_bipush (v := nI 32) hx hb d_La_law_497 (by decide +kernel) ?_
            refine lv_lshl hx hb d_La_law_499 rfl ?_
            refine ag_topl (fun y175 ey175 => ?_)
            refine lv_aload_n hx hb d_La_law_500 rfl (lv_at hl 1 rfl) ?_
            refine lv_iload hx hb d_La_law_501 (lv_at hl 5 rfl) ?_
            refine lv_iconst (v := nI 4) hx hb d_La_law_503 (by decide +kernel) ?_
            refine lv_iadd hx hb d_La_law_504 ?_
            refine aw_ti (nI_add (6 * t) 4) ?_
            refine va_sld hx hb hX hbl hbA hS (i := (nI ((6 * t) + 4))) (vp_in_nI (by omega) (by omega)) d_La_law_505 ?_
            refine aw_ti (y := s4) (by rw [nI_clamp (by omega)]; exact hs4.symm) ?_
            refine lv_i2l hx hb d_La_law_506 rfl ?_
            refine ag_topl (fun y176 ey176 => ?_)
            refine lv_ldc2 (v := 4294967295) hx hb hown (hG _ gw_13_3) d_La_law_507 ?_
            refine lv_land hx hb d_La_law_510 ?_
            refine ag_topl (fun y177 ey177 => ?_)
            refine lv_lor hx hb d_La_law_511 ?_
            refine ag_topl (fun y178 ey178 => ?_)
            obtain ⟨_, he179⟩ := zr_M0 hSh
            refine va_calll (va_runV (As := [.int c0, .int x173, .long y178]) (rest := []) ⟨hx, hb, hml, hown, hG⟩ (k_Mo_blockXcV l D g ad N0 zG zO zX zY zA zB zM zI zL zK zN zF zQ c0 x173 y178 hc) (aw_wV 3 hG gw_11_3 gw_11_0 gw_0_10 gw_11_1 gw_11_2 rfl rfl hd_Mo_block ⟨Nat.le_of_ble_eq_true rfl, Nat.le_of_ble_eq_true rfl⟩) (ag_qV (va_recv hK hP rfl he179) hP hD hSh hU hS) rfl rfl hl.1 rfl (lv_room (Nat.le_of_ble_eq_true rfl)) d_La_law_512 ⟨by omega, by omega⟩) hS (fun _ _ h => h) (fun _ h => h) ?_
            clear hP hD hSh hS he179
            intro y180 u8 t8 H locs ht _ ey180 hB _ _ hS
            obtain ⟨L, hP, hD, hSh⟩ := hB
            rw [ht] at hP
            clear ht
            have ey180 := ey180.symm
            refine lv_lstore hx hb d_La_law_515 hl (by decide) rfl (fun ls hl => ?_)
            have hl : lv_has ls 8 [(6, .long y180), (5, .int (nI 1)), (0, .ref b), (1, .ref (aw_r ad 0)), (2, .ref (aw_m ad 0)), (3, .ref (aw_o ad)), (4, .int (nI (6 * t)))] := hl
            refine lv_goto (tgt := 854) hx hb d_La_law_517 (by decide) ?_
            refine lv_iinc (k := 6) (v := nI (6 * t + 6)) hx hb d_La_law_854 hl rfl (aw_inc (6 * t) 6 6 (by decide +kernel)) (by decide) rfl (fun ls hl => ?_)
            have hl : lv_has ls 8 [(4, .int (nI (6 * t + 6))), (6, .long y180), (5, .int (nI 1)), (0, .ref b), (1, .ref (aw_r ad 0)), (2, .ref (aw_m ad 0)), (3, .ref (aw_o ad))] := hl
            refine lv_goto (tgt := 23) hx hb d_La_law_857 (by decide) ?_
            have hl := lv_sub hl (l' := [(0, .ref b), (1, .ref (aw_r ad 0)), (2, .ref (aw_m ad 0)), (3, .ref (aw_o ad)), (4, .int (nI (6 * t + 6)))]) [3, 4, 5, 6, 0] rfl
            refine W.widen (k := 85 + (t + 1)) (n := 1246 + 6 * (t + 1)) (by omega) (by omega) ?_
            exact ih (t + 1) zG zO zX zY zA zB zM zI zL zK zN (nI 1) zQ _ _ L ls (by omega) hP hD hSh hR hS (by first | exact hl | simpa [Nat.mul_add] using hl)
          refine lv_if_eq (tgt := 489) hx hb d_La_law_482 (by decide) (fun h9 => ?_) (fun h9 => ?_)
          · refine lv_iconst (v := nI 0) hx hb d_La_law_489 (by decide +kernel) ?_
            exact hj172 _ (if_pos h9)
          · refine lv_iconst (v := nI 1) hx hb d_La_law_485 (by decide +kernel) ?_
            refine lv_goto (tgt := 490) hx hb d_La_law_486 (by decide) ?_
            exact hj172 _ (if_neg h9)
        refine lv_if_eq (tgt := 440) hx hb d_La_law_433 (by decide) (fun h9 => ?_) (fun h9 => ?_)
        · refine lv_iconst (v := nI 0) hx hb d_La_law_440 (by decide +kernel) ?_
          exact hj164 _ (if_pos h9)
        · refine lv_iconst (v := nI 1) hx hb d_La_law_436 (by decide +kernel) ?_
          refine lv_goto (tgt := 441) hx hb d_La_law_437 (by decide) ?_
          exact hj164 _ (if_neg h9)
      · have hgj := hSh.2.2.2.2.1 j hj
        have hq1 : (zM j).1 = (zG j).1 := by rw [hR.1 j hj]
        have hq2 : (zM j).2 = (zG j).2 := by rw [hR.1 j hj]
        by_cases hs : 2 ≤ (zG j).1
        · obtain ⟨kc, hkc, hci, hco⟩ := hR.2.1 j hj (by omega)
          refine lv_aload_n hx hb d_La_law_420 rfl (lv_at hl 1 rfl) ?_
          refine lv_aload_n hx hb d_La_law_421 rfl (lv_at hl 0 rfl) ?_
          refine lv_iload hx hb d_La_law_422 (lv_at hl 4 rfl) ?_
          refine lv_iconst (v := nI 1) hx hb d_La_law_424 (by decide +kernel) ?_
          refine lv_iadd hx hb d_La_law_425 ?_
          refine aw_ti (nI_add (6 * t) 1) ?_
          refine va_sld hx hb hX hbl hbA hS (i := (nI ((6 * t) + 1))) (vp_in_nI (by omega) (by omega)) d_La_law_426 ?_
          refine aw_ti (y := nI j) (by rw [nI_clamp (by omega)]; exact hc0.symm) ?_
          refine lv_aload_n hx hb d_La_law_427 rfl (lv_at hl 0 rfl) ?_
          refine lv_iload hx hb d_La_law_428 (lv_at hl 4 rfl) ?_
          refine lv_iconst (v := nI 2) hx hb d_La_law_430 (by decide +kernel) ?_
          refine lv_iadd hx hb d_La_law_431 ?_
          refine aw_ti (nI_add (6 * t) 2) ?_
          refine va_sld hx hb hX hbl hbA hS (i := (nI ((6 * t) + 2))) (vp_in_nI (by omega) (by omega)) d_La_law_432 ?_
          refine aw_ti (y := s2) (by rw [nI_clamp (by omega)]; exact hs2.symm) ?_
          have hj181 : ∀ x182 : Int32, (if s2 = 0 then nI 0 else nI 1) = x182 → W p l e room_1 s m #[Value.ref b] below meth c H locs (85 + t) (1246 + 6 * t) (lw_Z below #[Value.ref b] s) (F0 m 441 ls [.int x182, .int (nI j), .ref (aw_r ad 0)]) := by
            intro x182 ebx182
            refine lv_aload_n hx hb d_La_law_441 rfl (lv_at hl 0 rfl) ?_
            refine lv_iload hx hb d_La_law_442 (lv_at hl 4 rfl) ?_
            refine lv_iconst (v := nI 3) hx hb d_La_law_444 (by decide +kernel) ?_
            refine lv_iadd hx hb d_La_law_445 ?_
            refine aw_ti (nI_add (6 * t) 3) ?_
            refine va_sld hx hb hX hbl hbA hS (i := (nI ((6 * t) + 3))) (vp_in_nI (by omega) (by omega)) d_La_law_446 ?_
            refine aw_ti (y := s3) (by rw [nI_clamp (by omega)]; exact hs3.symm) ?_
            refine lv_i2l hx hb d_La_law_447 rfl ?_
            refine ag_topl (fun y183 ey183 => ?_)
            refine lv_bipush (v := nI 32) hx hb d_La_law_448 (by decide +kernel) ?_
            refine lv_lshl hx hb d_La_law_450 rfl ?_
            refine ag_topl (fun y184 ey184 => ?_)
            refine lv_aload_n hx hb d_La_law_451 rfl (lv_at hl 0 rfl) ?_
            refine lv_iload hx hb d_La_law_452 (lv_at hl 4 rfl) ?_
            refine lv_iconst (v := nI 4) hx hb d_La_law_454 (by decide +kernel) ?_
            refine lv_iadd hx hb d_La_law_455 ?_
            refine aw_ti (nI_add (6 * t) 4) ?_
            refine va_sld hx hb hX hbl hbA hS (i := (nI ((6 * t) + 4))) (vp_in_nI (by omega) (by omega)) d_La_law_456 ?_
            refine aw_ti (y := s4) (by rw [nI_clamp (by omega)]; exact hs4.symm) ?_
            refine lv_i2l hx hb d_La_law_457 rfl ?_
            refine ag_topl (fun y185 ey185 => ?_)
            refine lv_ldc2 (v := 4294967295) hx hb hown (hG _ gw_13_3) d_La_law_458 ?_
            refine lv_land hx hb d_La_law_461 ?_
            refine ag_topl (fun y186 ey186 => ?_)
            refine lv_lor hx hb d_La_law_462 ?_
            refine ag_topl (fun y187 ey187 => ?_)
            refine lv_aload_n hx hb d_La_law_463 rfl (lv_at hl 3 rfl) ?_
            refine va_calli (vx_runSW (As := [.ref (aw_r ad 0), .int (nI j), .int x182, .long y187, .ref (aw_o ad)]) (rest := []) ⟨hx, hb, hml, hown, hG⟩ (k_La_block1V l hst D g ad N0 zG zO zX zY zA zB zM zI zL zK zN zF zQ j x182 y187 hj (by omega)) (aw_wW 5 hG gw_5_55 gw_5_53 gw_0_0 gw_5_54 rfl rfl hd_La_block ⟨Nat.le_of_ble_eq_true rfl, Nat.le_of_ble_eq_true rfl⟩) (ag_qS hP hD hSh hU hS) rfl rfl hl.1 rfl (lv_room (Nat.le_of_ble_eq_true rfl)) d_La_law_464 ⟨by omega, by omega⟩) hS (fun _ _ h => h) (fun _ h => h) ?_
            clear hP hD hSh hS
            intro x188 u8 t8 H locs ht _ ex188 hB _ _ hS
            obtain ⟨L, hP, hD, hSh⟩ := hB
            rw [ht] at hP
            clear ht
            subst ex188
            obtain ⟨zQ189, ezQ189⟩ : ∃ z : Int64, v_La_block1V_zQ zO zA j x182 y187 = z := ⟨_, rfl⟩
            rw [ezQ189] at hSh
            refine lv_istore hx hb d_La_law_467 hl (by decide) rfl (fun ls hl => ?_)
            have hl : lv_has ls 8 [(5, .int (nI 0)), (0, .ref b), (1, .ref (aw_r ad 0)), (2, .ref (aw_m ad 0)), (3, .ref (aw_o ad)), (4, .int (nI (6 * t)))] := hl
            refine lv_aload_n hx hb d_La_law_469 rfl (lv_at hl 3 rfl) ?_
            refine lv_aload_n hx hb d_La_law_470 rfl (lv_at hl 1 rfl) ?_
            refine lv_iload hx hb d_La_law_471 (lv_at hl 5 rfl) ?_
            refine lv_iconst (v := nI 1) hx hb d_La_law_473 (by decide +kernel) ?_
            refine lv_iadd hx hb d_La_law_474 ?_
            refine aw_ti (nI_add (6 * t) 1) ?_
            refine va_sld hx hb hX hbl hbA hS (i := (nI ((6 * t) + 1))) (vp_in_nI (by omega) (by omega)) d_La_law_475 ?_
            refine aw_ti (y := nI j) (by rw [nI_clamp (by omega)]; exact hc0.symm) ?_
            refine lv_aload_n hx hb d_La_law_476 rfl (lv_at hl 1 rfl) ?_
            refine lv_iload hx hb d_La_law_477 (lv_at hl 5 rfl) ?_
            refine lv_iconst (v := nI 2) hx hb d_La_law_479 (by decide +kernel) ?_
            refine lv_iadd hx hb d_La_law_480 ?_
            refine aw_ti (nI_add (6 * t) 2) ?_
            refine va_sld hx hb hX hbl hbA hS (i := (nI ((6 * t) + 2))) (vp_in_nI (by omega) (by omega)) d_La_law_481 ?_
            refine aw_ti (y := s2) (by rw [nI_clamp (by omega)]; exact hs2.symm) ?_
            have hj190 : ∀ x191 : Int32, (if s2 = 0 then nI 0 else nI 1) = x191 → W p l e room_1 s m #[Value.ref b] below meth c H locs ((85 + t) + 1) ((1246 + 6 * t) + 6) (lw_Z below #[Value.ref b] s) (F0 m 490 ls [.int x191, .int (nI j), .ref (aw_m ad 0)]) := by
              intro x191 ebx191
              refine lv_aload_n hx hb d_La_law_490 rfl (lv_at hl 1 rfl) ?_
              refine lv_iload hx hb d_La_law_491 (lv_at hl 5 rfl) ?_
              refine lv_iconst (v := nI 3) hx hb d_La_law_493 (by decide +kernel) ?_
              refine lv_iadd hx hb d_La_law_494 ?_
              refine aw_ti (nI_add (6 * t) 3) ?_
              refine va_sld hx hb hX hbl hbA hS (i := (nI ((6 * t) + 3))) (vp_in_nI (by omega) (by omega)) d_La_law_495 ?_
              refine aw_ti (y := s3) (by rw [nI_clamp (by omega)]; exact hs3.symm) ?_
              refine lv_i2l hx hb d_La_law_496 rfl ?_
              refine ag_topl (fun y192 ey192 => ?_)
              refine lv_bipush (v := nI 32) hx hb d_La_law_497 (by decide +kernel) ?_
              refine lv_lshl hx hb d_La_law_499 rfl ?_
              refine ag_topl (fun y193 ey193 => ?_)
              refine lv_aload_n hx hb d_La_law_500 rfl (lv_at hl 1 rfl) ?_
              refine lv_iload hx hb d_La_law_501 (lv_at hl 5 rfl) ?_
              refine lv_iconst (v := nI 4) hx hb d_La_law_503 (by decide +kernel) ?_
              refine lv_iadd hx hb d_La_law_504 ?_
              refine aw_ti (nI_add (6 * t) 4) ?_
              refine va_sld hx hb hX hbl hbA hS (i := (nI ((6 * t) + 4))) (vp_in_nI (by omega) (by omega)) d_La_law_505 ?_
              refine aw_ti (y := s4) (by rw [nI_clamp (by omega)]; exact hs4.symm) ?_
              refine lv_i2l hx hb d_La_law_506 rfl ?_
              refine ag_topl (fun y194 ey194 => ?_)
              refine lv_ldc2 (v := 4294967295) hx hb hown (hG _ gw_13_3) d_La_law_507 ?_
              refine lv_land hx hb d_La_law_510 ?_
              refine ag_topl (fun y195 ey195 => ?_)
              refine lv_lor hx hb d_La_law_511 ?_
              refine ag_topl (fun y196 ey196 => ?_)
              obtain ⟨_, he197⟩ := zr_M0 hSh
              refine va_calll (va_runV (As := [.int (nI j), .int x191, .long y196]) (rest := []) ⟨hx, hb, hml, hown, hG⟩ (k_Mo_block1V l D g ad N0 zG zO zX zY zA zB zM zI zL zK zN zF zQ189 j kc x191 y196 hj (by omega) hkc hci) (aw_wV 3 hG gw_11_3 gw_11_0 gw_0_10 gw_11_1 gw_11_2 rfl rfl hd_Mo_block ⟨Nat.le_of_ble_eq_true rfl, Nat.le_of_ble_eq_true rfl⟩) (ag_qV (va_recv hK hP rfl he197) hP hD hSh hU hS) rfl rfl hl.1 rfl (lv_room (Nat.le_of_ble_eq_true rfl)) d_La_law_512 ⟨by omega, by omega⟩) hS (fun _ _ h => h) (fun _ h => h) ?_
              clear hP hD hSh hS he197
              intro y198 u8 t8 H locs ht _ ey198 hB _ _ hS
              obtain ⟨L, hP, hD, hSh⟩ := hB
              rw [ht] at hP
              clear ht
              obtain ⟨zI199, ezI199⟩ : ∃ z : Nat → Nat → Int32, v_Mo_block1V_zI zI zL j kc x191 y196 = z := ⟨_, rfl⟩
              rw [ezI199] at hSh
              have ey198 := ey198.symm
              refine lv_lstore hx hb d_La_law_515 hl (by decide) rfl (fun ls hl => ?_)
              have hl : lv_has ls 8 [(6, .long y198), (5, .int (nI 0)), (0, .ref b), (1, .ref (aw_r ad 0)), (2, .ref (aw_m ad 0)), (3, .ref (aw_o ad)), (4, .int (nI (6 * t)))] := hl
              refine lv_goto (tgt := 854) hx hb d_La_law_517 (by decide) ?_
              refine lv_iinc (k := 6) (v := nI (6 * t + 6)) hx hb d_La_law_854 hl rfl (aw_inc (6 * t) 6 6 (by decide +kernel)) (by decide) rfl (fun ls hl => ?_)
              have hl : lv_has ls 8 [(4, .int (nI (6 * t + 6))), (6, .long y198), (5, .int (nI 0)), (0, .ref b), (1, .ref (aw_r ad 0)), (2, .ref (aw_m ad 0)), (3, .ref (aw_o ad))] := hl
              refine lv_goto (tgt := 23) hx hb d_La_law_857 (by decide) ?_
              have hl := lv_sub hl (l' := [(0, .ref b), (1, .ref (aw_r ad 0)), (2, .ref (aw_m ad 0)), (3, .ref (aw_o ad)), (4, .int (nI (6 * t + 6)))]) [3, 4, 5, 6, 0] rfl
              refine W.widen (k := 85 + (t + 1)) (n := 1246 + 6 * (t + 1)) (by omega) (by omega) ?_
              have hR : az_R zG zO zX zY zA zB zM zI199 zL := by
                subst ey198 ezI199 ey196 ey195 ey194 ey193 ey192 ebx191 ezQ189 ey187 ey186 ey185 ey184 ey183 ebx182
                exact r_block1 hR hj hs hkc hci hco
              exact ih (t + 1) zG zO zX zY zA zB zM zI199 zL (nI kc) (az_wn kc) (nI 0) zQ189 _ _ L ls (by omega) hP hD hSh hR hS (by first | exact hl | simpa [Nat.mul_add] using hl)
            refine lv_if_eq (tgt := 489) hx hb d_La_law_482 (by decide) (fun h9 => ?_) (fun h9 => ?_)
            · refine lv_iconst (v := nI 0) hx hb d_La_law_489 (by decide +kernel) ?_
              exact hj190 _ (if_pos h9)
            · refine lv_iconst (v := nI 1) hx hb d_La_law_485 (by decide +kernel) ?_
              refine lv_goto (tgt := 490) hx hb d_La_law_486 (by decide) ?_
              exact hj190 _ (if_neg h9)
          refine lv_if_eq (tgt := 440) hx hb d_La_law_433 (by decide) (fun h9 => ?_) (fun h9 => ?_)
          · refine lv_iconst (v := nI 0) hx hb d_La_law_440 (by decide +kernel) ?_
            exact hj181 _ (if_pos h9)
          · refine lv_iconst (v := nI 1) hx hb d_La_law_436 (by decide +kernel) ?_
            refine lv_goto (tgt := 441) hx hb d_La_law_437 (by decide) ?_
            exact hj181 _ (if_neg h9)
        · refine lv_aload_n hx hb d_La_law_420 rfl (lv_at hl 1 rfl) ?_
          refine lv_aload_n hx hb d_La_law_421 rfl (lv_at hl 0 rfl) ?_
          refine lv_iload hx hb d_La_law_422 (lv_at hl 4 rfl) ?_
          refine lv_iconst (v := nI 1) hx hb d_La_law_424 (by decide +kernel) ?_
          refine lv_iadd hx hb d_La_law_425 ?_
          refine aw_ti (nI_add (6 * t) 1) ?_
          refine va_sld hx hb hX hbl hbA hS (i := (nI ((6 * t) + 1))) (vp_in_nI (by omega) (by omega)) d_La_law_426 ?_
          refine aw_ti (y := nI j) (by rw [nI_clamp (by omega)]; exact hc0.symm) ?_
          refine lv_aload_n hx hb d_La_law_427 rfl (lv_at hl 0 rfl) ?_
          refine lv_iload hx hb d_La_law_428 (lv_at hl 4 rfl) ?_
          refine lv_iconst (v := nI 2) hx hb d_La_law_430 (by decide +kernel) ?_
          refine lv_iadd hx hb d_La_law_431 ?_
          refine aw_ti (nI_add (6 * t) 2) ?_
          refine va_sld hx hb hX hbl hbA hS (i := (nI ((6 * t) + 2))) (vp_in_nI (by omega) (by omega)) d_La_law_432 ?_
          refine aw_ti (y := s2) (by rw [nI_clamp (by omega)]; exact hs2.symm) ?_
          have hj200 : ∀ x201 : Int32, (if s2 = 0 then nI 0 else nI 1) = x201 → W p l e room_1 s m #[Value.ref b] below meth c H locs (85 + t) (1246 + 6 * t) (lw_Z below #[Value.ref b] s) (F0 m 441 ls [.int x201, .int (nI j), .ref (aw_r ad 0)]) := by
            intro x201 ebx201
            refine lv_aload_n hx hb d_La_law_441 rfl (lv_at hl 0 rfl) ?_
            refine lv_iload hx hb d_La_law_442 (lv_at hl 4 rfl) ?_
            refine lv_iconst (v := nI 3) hx hb d_La_law_444 (by decide +kernel) ?_
            refine lv_iadd hx hb d_La_law_445 ?_
            refine aw_ti (nI_add (6 * t) 3) ?_
            refine va_sld hx hb hX hbl hbA hS (i := (nI ((6 * t) + 3))) (vp_in_nI (by omega) (by omega)) d_La_law_446 ?_
            refine aw_ti (y := s3) (by rw [nI_clamp (by omega)]; exact hs3.symm) ?_
            refine lv_i2l hx hb d_La_law_447 rfl ?_
            refine ag_topl (fun y202 ey202 => ?_)
            refine lv_bipush (v := nI 32) hx hb d_La_law_448 (by decide +kernel) ?_
            refine lv_lshl hx hb d_La_law_450 rfl ?_
            refine ag_topl (fun y203 ey203 => ?_)
            refine lv_aload_n hx hb d_La_law_451 rfl (lv_at hl 0 rfl) ?_
            refine lv_iload hx hb d_La_law_452 (lv_at hl 4 rfl) ?_
            refine lv_iconst (v := nI 4) hx hb d_La_law_454 (by decide +kernel) ?_
            refine lv_iadd hx hb d_La_law_455 ?_
            refine aw_ti (nI_add (6 * t) 4) ?_
            refine va_sld hx hb hX hbl hbA hS (i := (nI ((6 * t) + 4))) (vp_in_nI (by omega) (by omega)) d_La_law_456 ?_
            refine aw_ti (y := s4) (by rw [nI_clamp (by omega)]; exact hs4.symm) ?_
            refine lv_i2l hx hb d_La_law_457 rfl ?_
            refine ag_topl (fun y204 ey204 => ?_)
            refine lv_ldc2 (v := 4294967295) hx hb hown (hG _ gw_13_3) d_La_law_458 ?_
            refine lv_land hx hb d_La_law_461 ?_
            refine ag_topl (fun y205 ey205 => ?_)
            refine lv_lor hx hb d_La_law_462 ?_
            refine ag_topl (fun y206 ey206 => ?_)
            refine lv_aload_n hx hb d_La_law_463 rfl (lv_at hl 3 rfl) ?_
            refine va_calli (vx_runSW (As := [.ref (aw_r ad 0), .int (nI j), .int x201, .long y206, .ref (aw_o ad)]) (rest := []) ⟨hx, hb, hml, hown, hG⟩ (k_La_blockXsV l hst D g ad N0 zG zO zX zY zA zB zM zI zL zK zN zF zQ j x201 y206 hj (by omega)) (aw_wW 5 hG gw_5_55 gw_5_53 gw_0_0 gw_5_54 rfl rfl hd_La_block ⟨Nat.le_of_ble_eq_true rfl, Nat.le_of_ble_eq_true rfl⟩) (ag_qS hP hD hSh hU hS) rfl rfl hl.1 rfl (lv_room (Nat.le_of_ble_eq_true rfl)) d_La_law_464 ⟨by omega, by omega⟩) hS (fun _ _ h => h) (fun _ h => h) ?_
            clear hP hD hSh hS
            intro x207 u8 t8 H locs ht _ ex207 hB _ _ hS
            obtain ⟨L, hP, hD, hSh⟩ := hB
            rw [ht] at hP
            clear ht
            subst ex207
            refine lv_istore hx hb d_La_law_467 hl (by decide) rfl (fun ls hl => ?_)
            have hl : lv_has ls 8 [(5, .int (nI 2)), (0, .ref b), (1, .ref (aw_r ad 0)), (2, .ref (aw_m ad 0)), (3, .ref (aw_o ad)), (4, .int (nI (6 * t)))] := hl
            refine lv_aload_n hx hb d_La_law_469 rfl (lv_at hl 3 rfl) ?_
            refine lv_aload_n hx hb d_La_law_470 rfl (lv_at hl 1 rfl) ?_
            refine lv_iload hx hb d_La_law_471 (lv_at hl 5 rfl) ?_
            refine lv_iconst (v := nI 1) hx hb d_La_law_473 (by decide +kernel) ?_
            refine lv_iadd hx hb d_La_law_474 ?_
            refine aw_ti (nI_add (6 * t) 1) ?_
            refine va_sld hx hb hX hbl hbA hS (i := (nI ((6 * t) + 1))) (vp_in_nI (by omega) (by omega)) d_La_law_475 ?_
            refine aw_ti (y := nI j) (by rw [nI_clamp (by omega)]; exact hc0.symm) ?_
            refine lv_aload_n hx hb d_La_law_476 rfl (lv_at hl 1 rfl) ?_
            refine lv_iload hx hb d_La_law_477 (lv_at hl 5 rfl) ?_
            refine lv_iconst (v := nI 2) hx hb d_La_law_479 (by decide +kernel) ?_
            refine lv_iadd hx hb d_La_law_480 ?_
            refine aw_ti (nI_add (6 * t) 2) ?_
            refine va_sld hx hb hX hbl hbA hS (i := (nI ((6 * t) + 2))) (vp_in_nI (by omega) (by omega)) d_La_law_481 ?_
            refine aw_ti (y := s2) (by rw [nI_clamp (by omega)]; exact hs2.symm) ?_
            have hj208 : ∀ x209 : Int32, (if s2 = 0 then nI 0 else nI 1) = x209 → W p l e room_1 s m #[Value.ref b] below meth c H locs ((85 + t) + 1) ((1246 + 6 * t) + 6) (lw_Z below #[Value.ref b] s) (F0 m 490 ls [.int x209, .int (nI j), .ref (aw_m ad 0)]) := by
              intro x209 ebx209
              refine lv_aload_n hx hb d_La_law_490 rfl (lv_at hl 1 rfl) ?_
              refine lv_iload hx hb d_La_law_491 (lv_at hl 5 rfl) ?_
              refine lv_iconst (v := nI 3) hx hb d_La_law_493 (by decide +kernel) ?_
              refine lv_iadd hx hb d_La_law_494 ?_
              refine aw_ti (nI_add (6 * t) 3) ?_
              refine va_sld hx hb hX hbl hbA hS (i := (nI ((6 * t) + 3))) (vp_in_nI (by omega) (by omega)) d_La_law_495 ?_
              refine aw_ti (y := s3) (by rw [nI_clamp (by omega)]; exact hs3.symm) ?_
              refine lv_i2l hx hb d_La_law_496 rfl ?_
              refine ag_topl (fun y210 ey210 => ?_)
              refine lv_bipush (v := nI 32) hx hb d_La_law_497 (by decide +kernel) ?_
              refine lv_lshl hx hb d_La_law_499 rfl ?_
              refine ag_topl (fun y211 ey211 => ?_)
              refine lv_aload_n hx hb d_La_law_500 rfl (lv_at hl 1 rfl) ?_
              refine lv_iload hx hb d_La_law_501 (lv_at hl 5 rfl) ?_
              refine lv_iconst (v := nI 4) hx hb d_La_law_503 (by decide +kernel) ?_
              refine lv_iadd hx hb d_La_law_504 ?_
              refine aw_ti (nI_add (6 * t) 4) ?_
              refine va_sld hx hb hX hbl hbA hS (i := (nI ((6 * t) + 4))) (vp_in_nI (by omega) (by omega)) d_La_law_505 ?_
              refine aw_ti (y := s4) (by rw [nI_clamp (by omega)]; exact hs4.symm) ?_
              refine lv_i2l hx hb d_La_law_506 rfl ?_
              refine ag_topl (fun y212 ey212 => ?_)
              refine lv_ldc2 (v := 4294967295) hx hb hown (hG _ gw_13_3) d_La_law_507 ?_
              refine lv_land hx hb d_La_law_510 ?_
              refine ag_topl (fun y213 ey213 => ?_)
              refine lv_lor hx hb d_La_law_511 ?_
              refine ag_topl (fun y214 ey214 => ?_)
              obtain ⟨_, he215⟩ := zr_M0 hSh
              refine va_calll (va_runV (As := [.int (nI j), .int x209, .long y214]) (rest := []) ⟨hx, hb, hml, hown, hG⟩ (k_Mo_blockXsV l D g ad N0 zG zO zX zY zA zB zM zI zL zK zN zF zQ j x209 y214 hj (by omega)) (aw_wV 3 hG gw_11_3 gw_11_0 gw_0_10 gw_11_1 gw_11_2 rfl rfl hd_Mo_block ⟨Nat.le_of_ble_eq_true rfl, Nat.le_of_ble_eq_true rfl⟩) (ag_qV (va_recv hK hP rfl he215) hP hD hSh hU hS) rfl rfl hl.1 rfl (lv_room (Nat.le_of_ble_eq_true rfl)) d_La_law_512 ⟨by omega, by omega⟩) hS (fun _ _ h => h) (fun _ h => h) ?_
              clear hP hD hSh hS he215
              intro y216 u8 t8 H locs ht _ ey216 hB _ _ hS
              obtain ⟨L, hP, hD, hSh⟩ := hB
              rw [ht] at hP
              clear ht
              have ey216 := ey216.symm
              refine lv_lstore hx hb d_La_law_515 hl (by decide) rfl (fun ls hl => ?_)
              have hl : lv_has ls 8 [(6, .long y216), (5, .int (nI 2)), (0, .ref b), (1, .ref (aw_r ad 0)), (2, .ref (aw_m ad 0)), (3, .ref (aw_o ad)), (4, .int (nI (6 * t)))] := hl
              refine lv_goto (tgt := 854) hx hb d_La_law_517 (by decide) ?_
              refine lv_iinc (k := 6) (v := nI (6 * t + 6)) hx hb d_La_law_854 hl rfl (aw_inc (6 * t) 6 6 (by decide +kernel)) (by decide) rfl (fun ls hl => ?_)
              have hl : lv_has ls 8 [(4, .int (nI (6 * t + 6))), (6, .long y216), (5, .int (nI 2)), (0, .ref b), (1, .ref (aw_r ad 0)), (2, .ref (aw_m ad 0)), (3, .ref (aw_o ad))] := hl
              refine lv_goto (tgt := 23) hx hb d_La_law_857 (by decide) ?_
              have hl := lv_sub hl (l' := [(0, .ref b), (1, .ref (aw_r ad 0)), (2, .ref (aw_m ad 0)), (3, .ref (aw_o ad)), (4, .int (nI (6 * t + 6)))]) [3, 4, 5, 6, 0] rfl
              refine W.widen (k := 85 + (t + 1)) (n := 1246 + 6 * (t + 1)) (by omega) (by omega) ?_
              exact ih (t + 1) zG zO zX zY zA zB zM zI zL zK zN (nI 2) zQ _ _ L ls (by omega) hP hD hSh hR hS (by first | exact hl | simpa [Nat.mul_add] using hl)
            refine lv_if_eq (tgt := 489) hx hb d_La_law_482 (by decide) (fun h9 => ?_) (fun h9 => ?_)
            · refine lv_iconst (v := nI 0) hx hb d_La_law_489 (by decide +kernel) ?_
              exact hj208 _ (if_pos h9)
            · refine lv_iconst (v := nI 1) hx hb d_La_law_485 (by decide +kernel) ?_
              refine lv_goto (tgt := 490) hx hb d_La_law_486 (by decide) ?_
              exact hj208 _ (if_neg h9)
          refine lv_if_eq (tgt := 440) hx hb d_La_law_433 (by decide) (fun h9 => ?_) (fun h9 => ?_)
          · refine lv_iconst (v := nI 0) hx hb d_La_law_440 (by decide +kernel) ?_
            exact hj200 _ (if_pos h9)
          · refine lv_iconst (v := nI 1) hx hb d_La_law_436 (by decide +kernel) ?_
            refine lv_goto (tgt := 441) hx hb d_La_law_437 (by decide) ?_
            exact hj200 _ (if_neg h9)
    · refine aw_ti (y := nI 6) (by rw [hs3]) ?_
      refine lv_tableIn (tgt := 520) (off := 480) hx hb d_La_law_40 (by decide +kernel) (by decide +kernel) (by decide +kernel) (by decide) ?_
      obtain ⟨c0, hc0⟩ : ∃ z : Int32, z = xs (6 * t + 1) := ⟨_, rfl⟩
      obtain ⟨s2, hs2⟩ : ∃ z : Int32, z = xs (6 * t + 2) := ⟨_, rfl⟩
      rcases aw_rng 4 (by decide) c0 with hc | ⟨j, hj, rfl⟩
      · refine lv_aload_n hx hb d_La_law_520 rfl (lv_at hl 1 rfl) ?_
        refine lv_aload_n hx hb d_La_law_521 rfl (lv_at hl 0 rfl) ?_
        refine lv_iload hx hb d_La_law_522 (lv_at hl 4 rfl) ?_
        refine lv_iconst (v := nI 1) hx hb d_La_law_524 (by decide +kernel) ?_
        refine lv_iadd hx hb d_La_law_525 ?_
        refine aw_ti (nI_add (6 * t) 1) ?_
        refine va_sld hx hb hX hbl hbA hS (i := (nI ((6 * t) + 1))) (vp_in_nI (by omega) (by omega)) d_La_law_526 ?_
        refine aw_ti (y := c0) (by rw [nI_clamp (by omega)]; exact hc0.symm) ?_
        refine lv_aload_n hx hb d_La_law_527 rfl (lv_at hl 0 rfl) ?_
        refine lv_iload hx hb d_La_law_528 (lv_at hl 4 rfl) ?_
        refine lv_iconst (v := nI 2) hx hb d_La_law_530 (by decide +kernel) ?_
        refine lv_iadd hx hb d_La_law_531 ?_
        refine aw_ti (nI_add (6 * t) 2) ?_
        refine va_sld hx hb hX hbl hbA hS (i := (nI ((6 * t) + 2))) (vp_in_nI (by omega) (by omega)) d_La_law_532 ?_
        refine aw_ti (y := s2) (by rw [nI_clamp (by omega)]; exact hs2.symm) ?_
        refine lv_aload_n hx hb d_La_law_533 rfl (lv_at hl 3 rfl) ?_
        refine va_calli (vx_runSW (As := [.ref (aw_r ad 0), .int c0, .int s2, .ref (aw_o ad)]) (rest := []) ⟨hx, hb, hml, hown, hG⟩ (k_La_wordXcV l hst D g ad N0 zG zO zX zY zA zB zM zI zL zK zN zF zQ c0 s2 hc) (aw_wW 4 hG gw_7_9 gw_7_7 gw_0_0 gw_7_8 rfl rfl hd_La_word ⟨Nat.le_of_ble_eq_true rfl, Nat.le_of_ble_eq_true rfl⟩) (ag_qS hP hD hSh hU hS) rfl rfl hl.1 rfl (lv_room (Nat.le_of_ble_eq_true rfl)) d_La_law_534 ⟨by omega, by omega⟩) hS (fun _ _ h => h) (fun _ h => h) ?_
        clear hP hD hSh hS
        intro x217 u8 t8 H locs ht _ ex217 hB _ _ hS
        obtain ⟨L, hP, hD, hSh⟩ := hB
        rw [ht] at hP
        clear ht
        subst ex217
        refine lv_istore hx hb d_La_law_537 hl (by decide) rfl (fun ls hl => ?_)
        have hl : lv_has ls 8 [(5, .int (nI 1)), (0, .ref b), (1, .ref (aw_r ad 0)), (2, .ref (aw_m ad 0)), (3, .ref (aw_o ad)), (4, .int (nI (6 * t)))] := hl
        refine lv_aload_n hx hb d_La_law_539 rfl (lv_at hl 3 rfl) ?_
        refine lv_aload_n hx hb d_La_law_540 rfl (lv_at hl 1 rfl) ?_
        refine lv_iload hx hb d_La_law_541 (lv_at hl 5 rfl) ?_
        refine lv_iconst (v := nI 1) hx hb d_La_law_543 (by decide +kernel) ?_
        refine lv_iadd hx hb d_La_law_544 ?_
        refine aw_ti (nI_add (6 * t) 1) ?_
        refine va_sld hx hb hX hbl hbA hS (i := (nI ((6 * t) + 1))) (vp_in_nI (by omega) (by omega)) d_La_law_545 ?_
        refine aw_ti (y := c0) (by rw [nI_clamp (by omega)]; exact hc0.symm) ?_
        refine lv_aload_n hx hb d_La_law_546 rfl (lv_at hl 1 rfl) ?_
        refine lv_iload hx hb d_La_law_547 (lv_at hl 5 rfl) ?_
        refine lv_iconst (v := nI 2) hx hb d_La_law_549 (by decide +kernel) ?_
        refine lv_iadd hx hb d_La_law_550 ?_
        refine aw_ti (nI_add (6 * t) 2) ?_
        refine va_sld hx hb hX hbl hbA hS (i := (nI ((6 * t) + 2))) (vp_in_nI (by omega) (by omega)) d_La_law_551 ?_
        refine aw_ti (y := s2) (by rw [nI_clamp (by omega)]; exact hs2.symm) ?_
        obtain ⟨_, he218⟩ := zr_M0 hSh
        refine va_calli (va_runV (As := [.int c0, .int s2]) (rest := []) ⟨hx, hb, hml, hown, hG⟩ (k_Mo_wordXcV l D g ad N0 zG zO zX zY zA zB zM zI zL zK zN zF zQ c0 s2 hc) (aw_wV 2 hG gw_12_14 gw_12_11 gw_0_10 gw_12_12 gw_12_13 rfl rfl hd_Mo_word ⟨Nat.le_of_ble_eq_true rfl, Nat.le_of_ble_eq_true rfl⟩) (ag_qV (va_recv hK hP rfl he218) hP hD hSh hU hS) rfl rfl hl.1 rfl (lv_room (Nat.le_of_ble_eq_true rfl)) d_La_law_552 ⟨by omega, by omega⟩) hS (fun _ _ h => h) (fun _ h => h) ?_
        clear hP hD hSh hS he218
        intro x219 u8 t8 H locs ht _ ex219 hB _ _ hS
        obtain ⟨L, hP, hD, hSh⟩ := hB
        rw [ht] at hP
        clear ht
        have ex219 := ex219.symm
        refine lv_istore hx hb d_La_law_555 hl (by decide) rfl (fun ls hl => ?_)
        have hl : lv_has ls 8 [(6, .int x219), (5, .int (nI 1)), (0, .ref b), (1, .ref (aw_r ad 0)), (2, .ref (aw_m ad 0)), (3, .ref (aw_o ad)), (4, .int (nI (6 * t)))] := hl
        refine lv_goto (tgt := 854) hx hb d_La_law_557 (by decide) ?_
        refine lv_iinc (k := 6) (v := nI (6 * t + 6)) hx hb d_La_law_854 hl rfl (aw_inc (6 * t) 6 6 (by decide +kernel)) (by decide) rfl (fun ls hl => ?_)
        have hl : lv_has ls 8 [(4, .int (nI (6 * t + 6))), (6, .int x219), (5, .int (nI 1)), (0, .ref b), (1, .ref (aw_r ad 0)), (2, .ref (aw_m ad 0)), (3, .ref (aw_o ad))] := hl
        refine lv_goto (tgt := 23) hx hb d_La_law_857 (by decide) ?_
        have hl := lv_sub hl (l' := [(0, .ref b), (1, .ref (aw_r ad 0)), (2, .ref (aw_m ad 0)), (3, .ref (aw_o ad)), (4, .int (nI (6 * t + 6)))]) [3, 4, 5, 6, 0] rfl
        refine W.widen (k := 85 + (t + 1)) (n := 1246 + 6 * (t + 1)) (by omega) (by omega) ?_
        exact ih (t + 1) zG zO zX zY zA zB zM zI zL zK zN (nI 1) zQ _ _ L ls (by omega) hP hD hSh hR hS (by first | exact hl | simpa [Nat.mul_add] using hl)
      · have hgj := hSh.2.2.2.2.1 j hj
        have hq1 : (zM j).1 = (zG j).1 := by rw [hR.1 j hj]
        have hq2 : (zM j).2 = (zG j).2 := by rw [hR.1 j hj]
        by_cases hs : 2 ≤ (zG j).1
        · obtain ⟨kc, hkc, hci, hco⟩ := hR.2.1 j hj (by omega)
          refine lv_aload_n hx hb d_La_law_520 rfl (lv_at hl 1 rfl) ?_
          refine lv_aload_n hx hb d_La_law_521 rfl (lv_at hl 0 rfl) ?_
          refine lv_iload hx hb d_La_law_522 (lv_at hl 4 rfl) ?_
          refine lv_iconst (v := nI 1) hx hb d_La_law_524 (by decide +kernel) ?_
          refine lv_iadd hx hb d_La_law_525 ?_
          refine aw_ti (nI_add (6 * t) 1) ?_
          refine va_sld hx hb hX hbl hbA hS (i := (nI ((6 * t) + 1))) (vp_in_nI (by omega) (by omega)) d_La_law_526 ?_
          refine aw_ti (y := nI j) (by rw [nI_clamp (by omega)]; exact hc0.symm) ?_
          refine lv_aload_n hx hb d_La_law_527 rfl (lv_at hl 0 rfl) ?_
          refine lv_iload hx hb d_La_law_528 (lv_at hl 4 rfl) ?_
          refine lv_iconst (v := nI 2) hx hb d_La_law_530 (by decide +kernel) ?_
          refine lv_iadd hx hb d_La_law_531 ?_
          refine aw_ti (nI_add (6 * t) 2) ?_
          refine va_sld hx hb hX hbl hbA hS (i := (nI ((6 * t) + 2))) (vp_in_nI (by omega) (by omega)) d_La_law_532 ?_
          refine aw_ti (y := s2) (by rw [nI_clamp (by omega)]; exact hs2.symm) ?_
          refine lv_aload_n hx hb d_La_law_533 rfl (lv_at hl 3 rfl) ?_
          refine va_calli (vx_runSW (As := [.ref (aw_r ad 0), .int (nI j), .int s2, .ref (aw_o ad)]) (rest := []) ⟨hx, hb, hml, hown, hG⟩ (k_La_word1V l hst D g ad N0 zG zO zX zY zA zB zM zI zL zK zN zF zQ j s2 hj (by omega)) (aw_wW 4 hG gw_7_9 gw_7_7 gw_0_0 gw_7_8 rfl rfl hd_La_word ⟨Nat.le_of_ble_eq_true rfl, Nat.le_of_ble_eq_true rfl⟩) (ag_qS hP hD hSh hU hS) rfl rfl hl.1 rfl (lv_room (Nat.le_of_ble_eq_true rfl)) d_La_law_534 ⟨by omega, by omega⟩) hS (fun _ _ h => h) (fun _ h => h) ?_
          clear hP hD hSh hS
          intro x220 u8 t8 H locs ht _ ex220 hB _ _ hS
          obtain ⟨L, hP, hD, hSh⟩ := hB
          rw [ht] at hP
          clear ht
          subst ex220
          obtain ⟨zQ221, ezQ221⟩ : ∃ z : Int64, v_La_word1V_zQ zO zA j s2 = z := ⟨_, rfl⟩
          rw [ezQ221] at hSh
          refine lv_istore hx hb d_La_law_537 hl (by decide) rfl (fun ls hl => ?_)
          have hl : lv_has ls 8 [(5, .int (nI 0)), (0, .ref b), (1, .ref (aw_r ad 0)), (2, .ref (aw_m ad 0)), (3, .ref (aw_o ad)), (4, .int (nI (6 * t)))] := hl
          refine lv_aload_n hx hb d_La_law_539 rfl (lv_at hl 3 rfl) ?_
          refine lv_aload_n hx hb d_La_law_540 rfl (lv_at hl 1 rfl) ?_
          refine lv_iload hx hb d_La_law_541 (lv_at hl 5 rfl) ?_
          refine lv_iconst (v := nI 1) hx hb d_La_law_543 (by decide +kernel) ?_
          refine lv_iadd hx hb d_La_law_544 ?_
          refine aw_ti (nI_add (6 * t) 1) ?_
          refine va_sld hx hb hX hbl hbA hS (i := (nI ((6 * t) + 1))) (vp_in_nI (by omega) (by omega)) d_La_law_545 ?_
          refine aw_ti (y := nI j) (by rw [nI_clamp (by omega)]; exact hc0.symm) ?_
          refine lv_aload_n hx hb d_La_law_546 rfl (lv_at hl 1 rfl) ?_
          refine lv_iload hx hb d_La_law_547 (lv_at hl 5 rfl) ?_
          refine lv_iconst (v := nI 2) hx hb d_La_law_549 (by decide +kernel) ?_
          refine lv_iadd hx hb d_La_law_550 ?_
          refine aw_ti (nI_add (6 * t) 2) ?_
          refine va_sld hx hb hX hbl hbA hS (i := (nI ((6 * t) + 2))) (vp_in_nI (by omega) (by omega)) d_La_law_551 ?_
          refine aw_ti (y := s2) (by rw [nI_clamp (by omega)]; exact hs2.symm) ?_
          obtain ⟨_, he222⟩ := zr_M0 hSh
          refine va_calli (va_runV (As := [.int (nI j), .int s2]) (rest := []) ⟨hx, hb, hml, hown, hG⟩ (k_Mo_word1V l D g ad N0 zG zO zX zY zA zB zM zI zL zK zN zF zQ221 j kc s2 hj (by omega) hkc hci) (aw_wV 2 hG gw_12_14 gw_12_11 gw_0_10 gw_12_12 gw_12_13 rfl rfl hd_Mo_word ⟨Nat.le_of_ble_eq_true rfl, Nat.le_of_ble_eq_true rfl⟩) (ag_qV (va_recv hK hP rfl he222) hP hD hSh hU hS) rfl rfl hl.1 rfl (lv_room (Nat.le_of_ble_eq_true rfl)) d_La_law_552 ⟨by omega, by omega⟩) hS (fun _ _ h => h) (fun _ h => h) ?_
          clear hP hD hSh hS he222
          intro x223 u8 t8 H locs ht _ ex223 hB _ _ hS
          obtain ⟨L, hP, hD, hSh⟩ := hB
          rw [ht] at hP
          clear ht
          obtain ⟨zI224, ezI224⟩ : ∃ z : Nat → Nat → Int32, v_Mo_word1V_zI zI zL j kc s2 = z := ⟨_, rfl⟩
          rw [ezI224] at hSh
          have ex223 := ex223.symm
          refine lv_istore hx hb d_La_law_555 hl (by decide) rfl (fun ls hl => ?_)
          have hl : lv_has ls 8 [(6, .int x223), (5, .int (nI 0)), (0, .ref b), (1, .ref (aw_r ad 0)), (2, .ref (aw_m ad 0)), (3, .ref (aw_o ad)), (4, .int (nI (6 * t)))] := hl
          refine lv_goto (tgt := 854) hx hb d_La_law_557 (by decide) ?_
          refine lv_iinc (k := 6) (v := nI (6 * t + 6)) hx hb d_La_law_854 hl rfl (aw_inc (6 * t) 6 6 (by decide +kernel)) (by decide) rfl (fun ls hl => ?_)
          have hl : lv_has ls 8 [(4, .int (nI (6 * t + 6))), (6, .int x223), (5, .int (nI 0)), (0, .ref b), (1, .ref (aw_r ad 0)), (2, .ref (aw_m ad 0)), (3, .ref (aw_o ad))] := hl
          refine lv_goto (tgt := 23) hx hb d_La_law_857 (by decide) ?_
          have hl := lv_sub hl (l' := [(0, .ref b), (1, .ref (aw_r ad 0)), (2, .ref (aw_m ad 0)), (3, .ref (aw_o ad)), (4, .int (nI (6 * t + 6)))]) [3, 4, 5, 6, 0] rfl
          refine W.widen (k := 85 + (t + 1)) (n := 1246 + 6 * (t + 1)) (by omega) (by omega) ?_
          have hR : az_R zG zO zX zY zA zB zM zI224 zL := by
            subst ex223 ezI224 ezQ221
            exact r_word1 hR hj hs hkc hci hco
          exact ih (t + 1) zG zO zX zY zA zB zM zI224 zL (nI kc) (az_wn kc) (nI 0) zQ221 _ _ L ls (by omega) hP hD hSh hR hS (by first | exact hl | simpa [Nat.mul_add] using hl)
        · refine lv_aload_n hx hb d_La_law_520 rfl (lv_at hl 1 rfl) ?_
          refine lv_aload_n hx hb d_La_law_521 rfl (lv_at hl 0 rfl) ?_
          refine lv_iload hx hb d_La_law_522 (lv_at hl 4 rfl) ?_
          refine lv_iconst (v := nI 1) hx hb d_La_law_524 (by decide +kernel) ?_
          refine lv_iadd hx hb d_La_law_525 ?_
          refine aw_ti (nI_add (6 * t) 1) ?_
          refine va_sld hx hb hX hbl hbA hS (i := (nI ((6 * t) + 1))) (vp_in_nI (by omega) (by omega)) d_La_law_526 ?_
          refine aw_ti (y := nI j) (by rw [nI_clamp (by omega)]; exact hc0.symm) ?_
          refine lv_aload_n hx hb d_La_law_527 rfl (lv_at hl 0 rfl) ?_
          refine lv_iload hx hb d_La_law_528 (lv_at hl 4 rfl) ?_
          refine lv_iconst (v := nI 2) hx hb d_La_law_530 (by decide +kernel) ?_
          refine lv_iadd hx hb d_La_law_531 ?_
          refine aw_ti (nI_add (6 * t) 2) ?_
          refine va_sld hx hb hX hbl hbA hS (i := (nI ((6 * t) + 2))) (vp_in_nI (by omega) (by omega)) d_La_law_532 ?_
          refine aw_ti (y := s2) (by rw [nI_clamp (by omega)]; exact hs2.symm) ?_
          refine lv_aload_n hx hb d_La_law_533 rfl (lv_at hl 3 rfl) ?_
          refine va_calli (vx_runSW (As := [.ref (aw_r ad 0), .int (nI j), .int s2, .ref (aw_o ad)]) (rest := []) ⟨hx, hb, hml, hown, hG⟩ (k_La_wordXsV l hst D g ad N0 zG zO zX zY zA zB zM zI zL zK zN zF zQ j s2 hj (by omega)) (aw_wW 4 hG gw_7_9 gw_7_7 gw_0_0 gw_7_8 rfl rfl hd_La_word ⟨Nat.le_of_ble_eq_true rfl, Nat.le_of_ble_eq_true rfl⟩) (ag_qS hP hD hSh hU hS) rfl rfl hl.1 rfl (lv_room (Nat.le_of_ble_eq_true rfl)) d_La_law_534 ⟨by omega, by omega⟩) hS (fun _ _ h => h) (fun _ h => h) ?_
          clear hP hD hSh hS
          intro x225 u8 t8 H locs ht _ ex225 hB _ _ hS
          obtain ⟨L, hP, hD, hSh⟩ := hB
          rw [ht] at hP
          clear ht
          subst ex225
          refine lv_istore hx hb d_La_law_537 hl (by decide) rfl (fun ls hl => ?_)
          have hl : lv_has ls 8 [(5, .int (nI 2)), (0, .ref b), (1, .ref (aw_r ad 0)), (2, .ref (aw_m ad 0)), (3, .ref (aw_o ad)), (4, .int (nI (6 * t)))] := hl
          refine lv_aload_n hx hb d_La_law_539 rfl (lv_at hl 3 rfl) ?_
          refine lv_aload_n hx hb d_La_law_540 rfl (lv_at hl 1 rfl) ?_
          refine lv_iload hx hb d_La_law_541 (lv_at hl 5 rfl) ?_
          refine lv_iconst (v := nI 1) hx hb d_La_law_543 (by decide +kernel) ?_
          refine lv_iadd hx hb d_La_law_544 ?_
          refine aw_ti (nI_add (6 * t) 1) ?_
          refine va_sld hx hb hX hbl hbA hS (i := (nI ((6 * t) + 1))) (vp_in_nI (by omega) (by omega)) d_La_law_545 ?_
          refine aw_ti (y := nI j) (by rw [nI_clamp (by omega)]; exact hc0.symm) ?_
          refine lv_aload_n hx hb d_La_law_546 rfl (lv_at hl 1 rfl) ?_
          refine lv_iload hx hb d_La_law_547 (lv_at hl 5 rfl) ?_
          refine lv_iconst (v := nI 2) hx hb d_La_law_549 (by decide +kernel) ?_
          refine lv_iadd hx hb d_La_law_550 ?_
          refine aw_ti (nI_add (6 * t) 2) ?_
          refine va_sld hx hb hX hbl hbA hS (i := (nI ((6 * t) + 2))) (vp_in_nI (by omega) (by omega)) d_La_law_551 ?_
          refine aw_ti (y := s2) (by rw [nI_clamp (by omega)]; exact hs2.symm) ?_
          obtain ⟨_, he226⟩ := zr_M0 hSh
          refine va_calli (va_runV (As := [.int (nI j), .int s2]) (rest := []) ⟨hx, hb, hml, hown, hG⟩ (k_Mo_wordXsV l D g ad N0 zG zO zX zY zA zB zM zI zL zK zN zF zQ j s2 hj (by omega)) (aw_wV 2 hG gw_12_14 gw_12_11 gw_0_10 gw_12_12 gw_12_13 rfl rfl hd_Mo_word ⟨Nat.le_of_ble_eq_true rfl, Nat.le_of_ble_eq_true rfl⟩) (ag_qV (va_recv hK hP rfl he226) hP hD hSh hU hS) rfl rfl hl.1 rfl (lv_room (Nat.le_of_ble_eq_true rfl)) d_La_law_552 ⟨by omega, by omega⟩) hS (fun _ _ h => h) (fun _ h => h) ?_
          clear hP hD hSh hS he226
          intro x227 u8 t8 H locs ht _ ex227 hB _ _ hS
          obtain ⟨L, hP, hD, hSh⟩ := hB
          rw [ht] at hP
          clear ht
          have ex227 := ex227.symm
          refine lv_istore hx hb d_La_law_555 hl (by decide) rfl (fun ls hl => ?_)
          have hl : lv_has ls 8 [(6, .int x227), (5, .int (nI 2)), (0, .ref b), (1, .ref (aw_r ad 0)), (2, .ref (aw_m ad 0)), (3, .ref (aw_o ad)), (4, .int (nI (6 * t)))] := hl
          refine lv_goto (tgt := 854) hx hb d_La_law_557 (by decide) ?_
          refine lv_iinc (k := 6) (v := nI (6 * t + 6)) hx hb d_La_law_854 hl rfl (aw_inc (6 * t) 6 6 (by decide +kernel)) (by decide) rfl (fun ls hl => ?_)
          have hl : lv_has ls 8 [(4, .int (nI (6 * t + 6))), (6, .int x227), (5, .int (nI 2)), (0, .ref b), (1, .ref (aw_r ad 0)), (2, .ref (aw_m ad 0)), (3, .ref (aw_o ad))] := hl
          refine lv_goto (tgt := 23) hx hb d_La_law_857 (by decide) ?_
          have hl := lv_sub hl (l' := [(0, .ref b), (1, .ref (aw_r ad 0)), (2, .ref (aw_m ad 0)), (3, .ref (aw_o ad)), (4, .int (nI (6 * t + 6)))]) [3, 4, 5, 6, 0] rfl
          refine W.widen (k := 85 + (t + 1)) (n := 1246 + 6 * (t + 1)) (by omega) (by omega) ?_
          exact ih (t + 1) zG zO zX zY zA zB zM zI zL zK zN (nI 2) zQ _ _ L ls (by omega) hP hD hSh hR hS (by first | exact hl | simpa [Nat.mul_add] using hl)
    · refine aw_ti (y := nI 7) (by rw [hs3]) ?_
      refine lv_tableIn (tgt := 560) (off := 520) hx hb d_La_law_40 (by decide +kernel) (by decide +kernel) (by decide +kernel) (by decide) ?_
      obtain ⟨p0, hp0⟩ : ∃ z : Int32, z = xs (6 * t + 1) := ⟨_, rfl⟩
      obtain ⟨s2, hs2⟩ : ∃ z : Int32, z = xs (6 * t + 2) := ⟨_, rfl⟩
      rcases aw_rng 64 (by decide) p0 with hc | ⟨k, hk, rfl⟩
      · refine lv_aload_n hx hb d_La_law_560 rfl (lv_at hl 1 rfl) ?_
        refine lv_aload_n hx hb d_La_law_561 rfl (lv_at hl 0 rfl) ?_
        refine lv_iload hx hb d_La_law_562 (lv_at hl 4 rfl) ?_
        refine lv_iconst (v := nI 1) hx hb d_La_law_564 (by decide +kernel) ?_
        refine lv_iadd hx hb d_La_law_565 ?_
        refine aw_ti (nI_add (6 * t) 1) ?_
        refine va_sld hx hb hX hbl hbA hS (i := (nI ((6 * t) + 1))) (vp_in_nI (by omega) (by omega)) d_La_law_566 ?_
        refine aw_ti (y := p0) (by rw [nI_clamp (by omega)]; exact hp0.symm) ?_
        refine lv_aload_n hx hb d_La_law_567 rfl (lv_at hl 0 rfl) ?_
        refine lv_iload hx hb d_La_law_568 (lv_at hl 4 rfl) ?_
        refine lv_iconst (v := nI 2) hx hb d_La_law_570 (by decide +kernel) ?_
        refine lv_iadd hx hb d_La_law_571 ?_
        refine aw_ti (nI_add (6 * t) 2) ?_
        refine va_sld hx hb hX hbl hbA hS (i := (nI ((6 * t) + 2))) (vp_in_nI (by omega) (by omega)) d_La_law_572 ?_
        refine aw_ti (y := s2) (by rw [nI_clamp (by omega)]; exact hs2.symm) ?_
        refine va_calli (vx_runSW (As := [.ref (aw_r ad 0), .int p0, .int s2]) (rest := []) ⟨hx, hb, hml, hown, hG⟩ (k_La_putXV l hst D g ad N0 zG zO zX zY zA zB zM zI zL zK zN zF zQ p0 s2 hc) (aw_wW 3 hG gw_7_25 gw_7_23 gw_0_0 gw_7_24 rfl rfl hd_La_put ⟨Nat.le_of_ble_eq_true rfl, Nat.le_of_ble_eq_true rfl⟩) (ag_qS hP hD hSh hU hS) rfl rfl hl.1 rfl (lv_room (Nat.le_of_ble_eq_true rfl)) d_La_law_573 ⟨by omega, by omega⟩) hS (fun _ _ h => h) (fun _ h => h) ?_
        clear hP hD hSh hS
        intro x228 u8 t8 H locs ht _ ex228 hB _ _ hS
        obtain ⟨L, hP, hD, hSh⟩ := hB
        rw [ht] at hP
        clear ht
        subst ex228
        refine lv_istore hx hb d_La_law_576 hl (by decide) rfl (fun ls hl => ?_)
        have hl : lv_has ls 8 [(5, .int (nI 1)), (0, .ref b), (1, .ref (aw_r ad 0)), (2, .ref (aw_m ad 0)), (3, .ref (aw_o ad)), (4, .int (nI (6 * t)))] := hl
        refine lv_aload_n hx hb d_La_law_578 rfl (lv_at hl 3 rfl) ?_
        refine lv_aload_n hx hb d_La_law_579 rfl (lv_at hl 1 rfl) ?_
        refine lv_iload hx hb d_La_law_580 (lv_at hl 5 rfl) ?_
        refine lv_iconst (v := nI 1) hx hb d_La_law_582 (by decide +kernel) ?_
        refine lv_iadd hx hb d_La_law_583 ?_
        refine aw_ti (nI_add (6 * t) 1) ?_
        refine va_sld hx hb hX hbl hbA hS (i := (nI ((6 * t) + 1))) (vp_in_nI (by omega) (by omega)) d_La_law_584 ?_
        refine aw_ti (y := p0) (by rw [nI_clamp (by omega)]; exact hp0.symm) ?_
        refine lv_aload_n hx hb d_La_law_585 rfl (lv_at hl 1 rfl) ?_
        refine lv_iload hx hb d_La_law_586 (lv_at hl 5 rfl) ?_
        refine lv_iconst (v := nI 2) hx hb d_La_law_588 (by decide +kernel) ?_
        refine lv_iadd hx hb d_La_law_589 ?_
        refine aw_ti (nI_add (6 * t) 2) ?_
        refine va_sld hx hb hX hbl hbA hS (i := (nI ((6 * t) + 2))) (vp_in_nI (by omega) (by omega)) d_La_law_590 ?_
        refine aw_ti (y := s2) (by rw [nI_clamp (by omega)]; exact hs2.symm) ?_
        obtain ⟨_, he229⟩ := zr_M0 hSh
        refine va_callv (va_runV (As := [.int p0, .int s2]) (rest := []) ⟨hx, hb, hml, hown, hG⟩ (k_Mo_putXV l D g ad N0 zG zO zX zY zA zB zM zI zL zK zN zF zQ p0 s2 (aw_bnd 63 (by decide) hc)) (aw_wV 2 hG gw_12_18 gw_12_15 gw_0_10 gw_12_16 gw_12_17 rfl rfl hd_Mo_put ⟨Nat.le_of_ble_eq_true rfl, Nat.le_of_ble_eq_true rfl⟩) (ag_qV (va_recv hK hP rfl he229) hP hD hSh hU hS) rfl rfl hl.1 rfl (lv_room (Nat.le_of_ble_eq_true rfl)) d_La_law_591 ⟨by omega, by omega⟩) hS (fun _ _ h => h) (fun _ h => h) ?_
        clear hP hD hSh hS he229
        intro u8 t8 H locs ht _ _ hB _ _ hS
        obtain ⟨L, hP, hD, hSh⟩ := hB
        rw [ht] at hP
        clear ht
        refine lv_goto (tgt := 854) hx hb d_La_law_594 (by decide) ?_
        refine lv_iinc (k := 5) (v := nI (6 * t + 6)) hx hb d_La_law_854 hl rfl (aw_inc (6 * t) 6 6 (by decide +kernel)) (by decide) rfl (fun ls hl => ?_)
        have hl : lv_has ls 8 [(4, .int (nI (6 * t + 6))), (5, .int (nI 1)), (0, .ref b), (1, .ref (aw_r ad 0)), (2, .ref (aw_m ad 0)), (3, .ref (aw_o ad))] := hl
        refine lv_goto (tgt := 23) hx hb d_La_law_857 (by decide) ?_
        have hl := lv_sub hl (l' := [(0, .ref b), (1, .ref (aw_r ad 0)), (2, .ref (aw_m ad 0)), (3, .ref (aw_o ad)), (4, .int (nI (6 * t + 6)))]) [2, 3, 4, 5, 0] rfl
        refine W.widen (k := 85 + (t + 1)) (n := 1246 + 6 * (t + 1)) (by omega) (by omega) ?_
        exact ih (t + 1) zG zO zX zY zA zB zM zI zL zK zN (nI 1) zQ _ _ L ls (by omega) hP hD hSh hR hS (by first | exact hl | simpa [Nat.mul_add] using hl)
      · refine lv_aload_n hx hb d_La_law_560 rfl (lv_at hl 1 rfl) ?_
        refine lv_aload_n hx hb d_La_law_561 rfl (lv_at hl 0 rfl) ?_
        refine lv_iload hx hb d_La_law_562 (lv_at hl 4 rfl) ?_
        refine lv_iconst (v := nI 1) hx hb d_La_law_564 (by decide +kernel) ?_
        refine lv_iadd hx hb d_La_law_565 ?_
        refine aw_ti (nI_add (6 * t) 1) ?_
        refine va_sld hx hb hX hbl hbA hS (i := (nI ((6 * t) + 1))) (vp_in_nI (by omega) (by omega)) d_La_law_566 ?_
        refine aw_ti (y := nI k) (by rw [nI_clamp (by omega)]; exact hp0.symm) ?_
        refine lv_aload_n hx hb d_La_law_567 rfl (lv_at hl 0 rfl) ?_
        refine lv_iload hx hb d_La_law_568 (lv_at hl 4 rfl) ?_
        refine lv_iconst (v := nI 2) hx hb d_La_law_570 (by decide +kernel) ?_
        refine lv_iadd hx hb d_La_law_571 ?_
        refine aw_ti (nI_add (6 * t) 2) ?_
        refine va_sld hx hb hX hbl hbA hS (i := (nI ((6 * t) + 2))) (vp_in_nI (by omega) (by omega)) d_La_law_572 ?_
        refine aw_ti (y := s2) (by rw [nI_clamp (by omega)]; exact hs2.symm) ?_
        refine va_calli (vx_runSW (As := [.ref (aw_r ad 0), .int (nI k), .int s2]) (rest := []) ⟨hx, hb, hml, hown, hG⟩ (k_La_put1V l hst D g ad N0 zG zO zX zY zA zB zM zI zL zK zN zF zQ k s2 (by omega)) (aw_wW 3 hG gw_7_25 gw_7_23 gw_0_0 gw_7_24 rfl rfl hd_La_put ⟨Nat.le_of_ble_eq_true rfl, Nat.le_of_ble_eq_true rfl⟩) (ag_qS hP hD hSh hU hS) rfl rfl hl.1 rfl (lv_room (Nat.le_of_ble_eq_true rfl)) d_La_law_573 ⟨by omega, by omega⟩) hS (fun _ _ h => h) (fun _ h => h) ?_
        clear hP hD hSh hS
        intro x230 u8 t8 H locs ht _ ex230 hB _ _ hS
        obtain ⟨L, hP, hD, hSh⟩ := hB
        rw [ht] at hP
        clear ht
        subst ex230
        obtain ⟨zB231, ezB231⟩ : ∃ z : Nat → Int32, v_La_put1V_zB zB k s2 = z := ⟨_, rfl⟩
        rw [ezB231] at hSh
        refine lv_istore hx hb d_La_law_576 hl (by decide) rfl (fun ls hl => ?_)
        have hl : lv_has ls 8 [(5, .int (nI 0)), (0, .ref b), (1, .ref (aw_r ad 0)), (2, .ref (aw_m ad 0)), (3, .ref (aw_o ad)), (4, .int (nI (6 * t)))] := hl
        refine lv_aload_n hx hb d_La_law_578 rfl (lv_at hl 3 rfl) ?_
        refine lv_aload_n hx hb d_La_law_579 rfl (lv_at hl 1 rfl) ?_
        refine lv_iload hx hb d_La_law_580 (lv_at hl 5 rfl) ?_
        refine lv_iconst (v := nI 1) hx hb d_La_law_582 (by decide +kernel) ?_
        refine lv_iadd hx hb d_La_law_583 ?_
        refine aw_ti (nI_add (6 * t) 1) ?_
        refine va_sld hx hb hX hbl hbA hS (i := (nI ((6 * t) + 1))) (vp_in_nI (by omega) (by omega)) d_La_law_584 ?_
        refine aw_ti (y := nI k) (by rw [nI_clamp (by omega)]; exact hp0.symm) ?_
        refine lv_aload_n hx hb d_La_law_585 rfl (lv_at hl 1 rfl) ?_
        refine lv_iload hx hb d_La_law_586 (lv_at hl 5 rfl) ?_
        refine lv_iconst (v := nI 2) hx hb d_La_law_588 (by decide +kernel) ?_
        refine lv_iadd hx hb d_La_law_589 ?_
        refine aw_ti (nI_add (6 * t) 2) ?_
        refine va_sld hx hb hX hbl hbA hS (i := (nI ((6 * t) + 2))) (vp_in_nI (by omega) (by omega)) d_La_law_590 ?_
        refine aw_ti (y := s2) (by rw [nI_clamp (by omega)]; exact hs2.symm) ?_
        obtain ⟨_, he232⟩ := zr_M0 hSh
        refine va_callv (va_runV (As := [.int (nI k), .int s2]) (rest := []) ⟨hx, hb, hml, hown, hG⟩ (k_Mo_put1V l D g ad N0 zG zO zX zY zA zB231 zM zI zL zK zN zF zQ k s2 (by omega)) (aw_wV 2 hG gw_12_18 gw_12_15 gw_0_10 gw_12_16 gw_12_17 rfl rfl hd_Mo_put ⟨Nat.le_of_ble_eq_true rfl, Nat.le_of_ble_eq_true rfl⟩) (ag_qV (va_recv hK hP rfl he232) hP hD hSh hU hS) rfl rfl hl.1 rfl (lv_room (Nat.le_of_ble_eq_true rfl)) d_La_law_591 ⟨by omega, by omega⟩) hS (fun _ _ h => h) (fun _ h => h) ?_
        clear hP hD hSh hS he232
        intro u8 t8 H locs ht _ _ hB _ _ hS
        obtain ⟨L, hP, hD, hSh⟩ := hB
        rw [ht] at hP
        clear ht
        obtain ⟨zI233, ezI233⟩ : ∃ z : Nat → Nat → Int32, v_Mo_put1V_zI zI k s2 = z := ⟨_, rfl⟩
        rw [ezI233] at hSh
        refine lv_goto (tgt := 854) hx hb d_La_law_594 (by decide) ?_
        refine lv_iinc (k := 5) (v := nI (6 * t + 6)) hx hb d_La_law_854 hl rfl (aw_inc (6 * t) 6 6 (by decide +kernel)) (by decide) rfl (fun ls hl => ?_)
        have hl : lv_has ls 8 [(4, .int (nI (6 * t + 6))), (5, .int (nI 0)), (0, .ref b), (1, .ref (aw_r ad 0)), (2, .ref (aw_m ad 0)), (3, .ref (aw_o ad))] := hl
        refine lv_goto (tgt := 23) hx hb d_La_law_857 (by decide) ?_
        have hl := lv_sub hl (l' := [(0, .ref b), (1, .ref (aw_r ad 0)), (2, .ref (aw_m ad 0)), (3, .ref (aw_o ad)), (4, .int (nI (6 * t + 6)))]) [2, 3, 4, 5, 0] rfl
        refine W.widen (k := 85 + (t + 1)) (n := 1246 + 6 * (t + 1)) (by omega) (by omega) ?_
        have hR : az_R zG zO zX zY zA zB231 zM zI233 zL := by
          subst ezI233 ezB231
          exact r_put1 hR hk
        exact ih (t + 1) zG zO zX zY zA zB231 zM zI233 zL zK zN (nI 0) zQ _ _ L ls (by omega) hP hD hSh hR hS (by first | exact hl | simpa [Nat.mul_add] using hl)
    · refine aw_ti (y := nI 8) (by rw [hs3]) ?_
      refine lv_tableIn (tgt := 597) (off := 557) hx hb d_La_law_40 (by decide +kernel) (by decide +kernel) (by decide +kernel) (by decide) ?_
      obtain ⟨p0, hp0⟩ : ∃ z : Int32, z = xs (6 * t + 1) := ⟨_, rfl⟩
      rcases aw_rng 64 (by decide) p0 with hc | ⟨k, hk, rfl⟩
      · refine lv_aload_n hx hb d_La_law_597 rfl (lv_at hl 1 rfl) ?_
        refine lv_aload_n hx hb d_La_law_598 rfl (lv_at hl 0 rfl) ?_
        refine lv_iload hx hb d_La_law_599 (lv_at hl 4 rfl) ?_
        refine lv_iconst (v := nI 1) hx hb d_La_law_601 (by decide +kernel) ?_
        refine lv_iadd hx hb d_La_law_602 ?_
        refine aw_ti (nI_add (6 * t) 1) ?_
        refine va_sld hx hb hX hbl hbA hS (i := (nI ((6 * t) + 1))) (vp_in_nI (by omega) (by omega)) d_La_law_603 ?_
        refine aw_ti (y := p0) (by rw [nI_clamp (by omega)]; exact hp0.symm) ?_
        refine lv_aload_n hx hb d_La_law_604 rfl (lv_at hl 3 rfl) ?_
        refine va_calli (vx_runSW (As := [.ref (aw_r ad 0), .int p0, .ref (aw_o ad)]) (rest := []) ⟨hx, hb, hml, hown, hG⟩ (k_La_getXV l hst D g ad N0 zG zO zX zY zA zB zM zI zL zK zN zF zQ p0 hc) (aw_wW 3 hG gw_7_35 gw_7_33 gw_0_0 gw_7_34 rfl rfl hd_La_get ⟨Nat.le_of_ble_eq_true rfl, Nat.le_of_ble_eq_true rfl⟩) (ag_qS hP hD hSh hU hS) rfl rfl hl.1 rfl (lv_room (Nat.le_of_ble_eq_true rfl)) d_La_law_605 ⟨by omega, by omega⟩) hS (fun _ _ h => h) (fun _ h => h) ?_
        clear hP hD hSh hS
        intro x234 u8 t8 H locs ht _ ex234 hB _ _ hS
        obtain ⟨L, hP, hD, hSh⟩ := hB
        rw [ht] at hP
        clear ht
        subst ex234
        refine lv_istore hx hb d_La_law_608 hl (by decide) rfl (fun ls hl => ?_)
        have hl : lv_has ls 8 [(5, .int (nI 1)), (0, .ref b), (1, .ref (aw_r ad 0)), (2, .ref (aw_m ad 0)), (3, .ref (aw_o ad)), (4, .int (nI (6 * t)))] := hl
        refine lv_aload_n hx hb d_La_law_610 rfl (lv_at hl 3 rfl) ?_
        refine lv_aload_n hx hb d_La_law_611 rfl (lv_at hl 1 rfl) ?_
        refine lv_iload hx hb d_La_law_612 (lv_at hl 5 rfl) ?_
        refine lv_iconst (v := nI 1) hx hb d_La_law_614 (by decide +kernel) ?_
        refine lv_iadd hx hb d_La_law_615 ?_
        refine aw_ti (nI_add (6 * t) 1) ?_
        refine va_sld hx hb hX hbl hbA hS (i := (nI ((6 * t) + 1))) (vp_in_nI (by omega) (by omega)) d_La_law_616 ?_
        refine aw_ti (y := p0) (by rw [nI_clamp (by omega)]; exact hp0.symm) ?_
        obtain ⟨_, he235⟩ := zr_M0 hSh
        refine va_calli (va_runV (As := [.int p0]) (rest := []) ⟨hx, hb, hml, hown, hG⟩ (k_Mo_getXV l D g ad N0 zG zO zX zY zA zB zM zI zL zK zN zF zQ p0 (aw_bnd 63 (by decide) hc)) (aw_wV 1 hG gw_12_22 gw_12_19 gw_0_10 gw_12_20 gw_12_21 rfl rfl hd_Mo_get ⟨Nat.le_of_ble_eq_true rfl, Nat.le_of_ble_eq_true rfl⟩) (ag_qV (va_recv hK hP rfl he235) hP hD hSh hU hS) rfl rfl hl.1 rfl (lv_room (Nat.le_of_ble_eq_true rfl)) d_La_law_617 ⟨by omega, by omega⟩) hS (fun _ _ h => h) (fun _ h => h) ?_
        clear hP hD hSh hS he235
        intro x236 u8 t8 H locs ht _ ex236 hB _ _ hS
        obtain ⟨L, hP, hD, hSh⟩ := hB
        rw [ht] at hP
        clear ht
        have ex236 := ex236.symm
        refine lv_istore hx hb d_La_law_620 hl (by decide) rfl (fun ls hl => ?_)
        have hl : lv_has ls 8 [(6, .int x236), (5, .int (nI 1)), (0, .ref b), (1, .ref (aw_r ad 0)), (2, .ref (aw_m ad 0)), (3, .ref (aw_o ad)), (4, .int (nI (6 * t)))] := hl
        refine lv_goto (tgt := 854) hx hb d_La_law_622 (by decide) ?_
        refine lv_iinc (k := 6) (v := nI (6 * t + 6)) hx hb d_La_law_854 hl rfl (aw_inc (6 * t) 6 6 (by decide +kernel)) (by decide) rfl (fun ls hl => ?_)
        have hl : lv_has ls 8 [(4, .int (nI (6 * t + 6))), (6, .int x236), (5, .int (nI 1)), (0, .ref b), (1, .ref (aw_r ad 0)), (2, .ref (aw_m ad 0)), (3, .ref (aw_o ad))] := hl
        refine lv_goto (tgt := 23) hx hb d_La_law_857 (by decide) ?_
        have hl := lv_sub hl (l' := [(0, .ref b), (1, .ref (aw_r ad 0)), (2, .ref (aw_m ad 0)), (3, .ref (aw_o ad)), (4, .int (nI (6 * t + 6)))]) [3, 4, 5, 6, 0] rfl
        refine W.widen (k := 85 + (t + 1)) (n := 1246 + 6 * (t + 1)) (by omega) (by omega) ?_
        exact ih (t + 1) zG zO zX zY zA zB zM zI zL zK zN (nI 1) zQ _ _ L ls (by omega) hP hD hSh hR hS (by first | exact hl | simpa [Nat.mul_add] using hl)
      · refine lv_aload_n hx hb d_La_law_597 rfl (lv_at hl 1 rfl) ?_
        refine lv_aload_n hx hb d_La_law_598 rfl (lv_at hl 0 rfl) ?_
        refine lv_iload hx hb d_La_law_599 (lv_at hl 4 rfl) ?_
        refine lv_iconst (v := nI 1) hx hb d_La_law_601 (by decide +kernel) ?_
        refine lv_iadd hx hb d_La_law_602 ?_
        refine aw_ti (nI_add (6 * t) 1) ?_
        refine va_sld hx hb hX hbl hbA hS (i := (nI ((6 * t) + 1))) (vp_in_nI (by omega) (by omega)) d_La_law_603 ?_
        refine aw_ti (y := nI k) (by rw [nI_clamp (by omega)]; exact hp0.symm) ?_
        refine lv_aload_n hx hb d_La_law_604 rfl (lv_at hl 3 rfl) ?_
        refine va_calli (vx_runSW (As := [.ref (aw_r ad 0), .int (nI k), .ref (aw_o ad)]) (rest := []) ⟨hx, hb, hml, hown, hG⟩ (k_La_get1V l hst D g ad N0 zG zO zX zY zA zB zM zI zL zK zN zF zQ k (by omega)) (aw_wW 3 hG gw_7_35 gw_7_33 gw_0_0 gw_7_34 rfl rfl hd_La_get ⟨Nat.le_of_ble_eq_true rfl, Nat.le_of_ble_eq_true rfl⟩) (ag_qS hP hD hSh hU hS) rfl rfl hl.1 rfl (lv_room (Nat.le_of_ble_eq_true rfl)) d_La_law_605 ⟨by omega, by omega⟩) hS (fun _ _ h => h) (fun _ h => h) ?_
        clear hP hD hSh hS
        intro x237 u8 t8 H locs ht _ ex237 hB _ _ hS
        obtain ⟨L, hP, hD, hSh⟩ := hB
        rw [ht] at hP
        clear ht
        subst ex237
        obtain ⟨zQ238, ezQ238⟩ : ∃ z : Int64, v_La_get1V_zQ zB k = z := ⟨_, rfl⟩
        rw [ezQ238] at hSh
        refine lv_istore hx hb d_La_law_608 hl (by decide) rfl (fun ls hl => ?_)
        have hl : lv_has ls 8 [(5, .int (nI 0)), (0, .ref b), (1, .ref (aw_r ad 0)), (2, .ref (aw_m ad 0)), (3, .ref (aw_o ad)), (4, .int (nI (6 * t)))] := hl
        refine lv_aload_n hx hb d_La_law_610 rfl (lv_at hl 3 rfl) ?_
        refine lv_aload_n hx hb d_La_law_611 rfl (lv_at hl 1 rfl) ?_
        refine lv_iload hx hb d_La_law_612 (lv_at hl 5 rfl) ?_
        refine lv_iconst (v := nI 1) hx hb d_La_law_614 (by decide +kernel) ?_
        refine lv_iadd hx hb d_La_law_615 ?_
        refine aw_ti (nI_add (6 * t) 1) ?_
        refine va_sld hx hb hX hbl hbA hS (i := (nI ((6 * t) + 1))) (vp_in_nI (by omega) (by omega)) d_La_law_616 ?_
        refine aw_ti (y := nI k) (by rw [nI_clamp (by omega)]; exact hp0.symm) ?_
        obtain ⟨_, he239⟩ := zr_M0 hSh
        refine va_calli (va_runV (As := [.int (nI k)]) (rest := []) ⟨hx, hb, hml, hown, hG⟩ (k_Mo_get1V l D g ad N0 zG zO zX zY zA zB zM zI zL zK zN zF zQ238 k (by omega)) (aw_wV 1 hG gw_12_22 gw_12_19 gw_0_10 gw_12_20 gw_12_21 rfl rfl hd_Mo_get ⟨Nat.le_of_ble_eq_true rfl, Nat.le_of_ble_eq_true rfl⟩) (ag_qV (va_recv hK hP rfl he239) hP hD hSh hU hS) rfl rfl hl.1 rfl (lv_room (Nat.le_of_ble_eq_true rfl)) d_La_law_617 ⟨by omega, by omega⟩) hS (fun _ _ h => h) (fun _ h => h) ?_
        clear hP hD hSh hS he239
        intro x240 u8 t8 H locs ht _ ex240 hB _ _ hS
        obtain ⟨L, hP, hD, hSh⟩ := hB
        rw [ht] at hP
        clear ht
        have ex240 := ex240.symm
        refine lv_istore hx hb d_La_law_620 hl (by decide) rfl (fun ls hl => ?_)
        have hl : lv_has ls 8 [(6, .int x240), (5, .int (nI 0)), (0, .ref b), (1, .ref (aw_r ad 0)), (2, .ref (aw_m ad 0)), (3, .ref (aw_o ad)), (4, .int (nI (6 * t)))] := hl
        refine lv_goto (tgt := 854) hx hb d_La_law_622 (by decide) ?_
        refine lv_iinc (k := 6) (v := nI (6 * t + 6)) hx hb d_La_law_854 hl rfl (aw_inc (6 * t) 6 6 (by decide +kernel)) (by decide) rfl (fun ls hl => ?_)
        have hl : lv_has ls 8 [(4, .int (nI (6 * t + 6))), (6, .int x240), (5, .int (nI 0)), (0, .ref b), (1, .ref (aw_r ad 0)), (2, .ref (aw_m ad 0)), (3, .ref (aw_o ad))] := hl
        refine lv_goto (tgt := 23) hx hb d_La_law_857 (by decide) ?_
        have hl := lv_sub hl (l' := [(0, .ref b), (1, .ref (aw_r ad 0)), (2, .ref (aw_m ad 0)), (3, .ref (aw_o ad)), (4, .int (nI (6 * t + 6)))]) [3, 4, 5, 6, 0] rfl
        refine W.widen (k := 85 + (t + 1)) (n := 1246 + 6 * (t + 1)) (by omega) (by omega) ?_
        exact ih (t + 1) zG zO zX zY zA zB zM zI zL zK zN (nI 0) zQ238 _ _ L ls (by omega) hP hD hSh hR hS (by first | exact hl | simpa [Nat.mul_add] using hl)
    · refine aw_ti (y := nI 9) (by rw [hs3]) ?_
      refine lv_tableIn (tgt := 625) (off := 585) hx hb d_La_law_40 (by decide +kernel) (by decide +kernel) (by decide +kernel) (by decide) ?_
      obtain ⟨c0, hc0⟩ : ∃ z : Int32, z = xs (6 * t + 1) := ⟨_, rfl⟩
      obtain ⟨s2, hs2⟩ : ∃ z : Int32, z = xs (6 * t + 2) := ⟨_, rfl⟩
      obtain ⟨fr, hfr⟩ : ∃ z : Int32, z = xs (6 * t + 3) := ⟨_, rfl⟩
      obtain ⟨m0, hm0⟩ : ∃ z : Int32, z = xs (6 * t + 4) := ⟨_, rfl⟩
      rcases aw_rng 4 (by decide) c0 with hc | ⟨j, hj, rfl⟩
      · refine lv_aload_n hx hb d_La_law_625 rfl (lv_at hl 1 rfl) ?_
        refine lv_aload_n hx hb d_La_law_626 rfl (lv_at hl 0 rfl) ?_
        refine lv_iload hx hb d_La_law_627 (lv_at hl 4 rfl) ?_
        refine lv_iconst (v := nI 1) hx hb d_La_law_629 (by decide +kernel) ?_
        refine lv_iadd hx hb d_La_law_630 ?_
        refine aw_ti (nI_add (6 * t) 1) ?_
        refine va_sld hx hb hX hbl hbA hS (i := (nI ((6 * t) + 1))) (vp_in_nI (by omega) (by omega)) d_La_law_631 ?_
        refine aw_ti (y := c0) (by rw [nI_clamp (by omega)]; exact hc0.symm) ?_
        refine lv_aload_n hx hb d_La_law_632 rfl (lv_at hl 0 rfl) ?_
        refine lv_iload hx hb d_La_law_633 (lv_at hl 4 rfl) ?_
        refine lv_iconst (v := nI 2) hx hb d_La_law_635 (by decide +kernel) ?_
        refine lv_iadd hx hb d_La_law_636 ?_
        refine aw_ti (nI_add (6 * t) 2) ?_
        refine va_sld hx hb hX hbl hbA hS (i := (nI ((6 * t) + 2))) (vp_in_nI (by omega) (by omega)) d_La_law_637 ?_
        refine aw_ti (y := s2) (by rw [nI_clamp (by omega)]; exact hs2.symm) ?_
        have hj241 : ∀ x242 : Int32, (if s2 = 0 then nI 0 else nI 1) = x242 → W p l e room_1 s m #[Value.ref b] below meth c H locs (85 + t) (1246 + 6 * t) (lw_Z below #[Value.ref b] s) (F0 m 646 ls [.int x242, .int c0, .ref (aw_r ad 0)]) := by
          intro x242 ebx242
          refine lv_aload_n hx hb d_La_law_646 rfl (lv_at hl 0 rfl) ?_
          refine lv_iload hx hb d_La_law_647 (lv_at hl 4 rfl) ?_
          refine lv_iconst (v := nI 3) hx hb d_La_law_649 (by decide +kernel) ?_
          refine lv_iadd hx hb d_La_law_650 ?_
          refine aw_ti (nI_add (6 * t) 3) ?_
          refine va_sld hx hb hX hbl hbA hS (i := (nI ((6 * t) + 3))) (vp_in_nI (by omega) (by omega)) d_La_law_651 ?_
          refine aw_ti (y := fr) (by rw [nI_clamp (by omega)]; exact hfr.symm) ?_
          refine lv_aload_n hx hb d_La_law_652 rfl (lv_at hl 0 rfl) ?_
          refine lv_iload hx hb d_La_law_653 (lv_at hl 4 rfl) ?_
          refine lv_iconst (v := nI 4) hx hb d_La_law_655 (by decide +kernel) ?_
          refine lv_iadd hx hb d_La_law_656 ?_
          refine aw_ti (nI_add (6 * t) 4) ?_
          refine va_sld hx hb hX hbl hbA hS (i := (nI ((6 * t) + 4))) (vp_in_nI (by omega) (by omega)) d_La_law_657 ?_
          refine aw_ti (y := m0) (by rw [nI_clamp (by omega)]; exact hm0.symm) ?_
          refine lv_aload_n hx hb d_La_law_658 rfl (lv_at hl 3 rfl) ?_
          refine va_calli (vx_runSW (As := [.ref (aw_r ad 0), .int c0, .int x242, .int fr, .int m0, .ref (aw_o ad)]) (rest := []) ⟨hx, hb, hml, hown, hG⟩ (k_La_feedXcV l hst D g ad N0 zG zO zX zY zA zB zM zI zL zK zN zF zQ c0 x242 fr m0 hc) (aw_wW 6 hG gw_7_42 gw_7_40 gw_0_0 gw_7_41 rfl rfl hd_La_feed ⟨Nat.le_of_ble_eq_true rfl, Nat.le_of_ble_eq_true rfl⟩) (ag_qS hP hD hSh hU hS) rfl rfl hl.1 rfl (lv_room (Nat.le_of_ble_eq_true rfl)) d_La_law_659 ⟨by omega, by omega⟩) hS (fun _ _ h => h) (fun _ h => h) ?_
          clear hP hD hSh hS
          intro x243 u8 t8 H locs ht _ ex243 hB _ _ hS
          obtain ⟨L, hP, hD, hSh⟩ := hB
          rw [ht] at hP
          clear ht
          subst ex243
          refine lv_istore hx hb d_La_law_662 hl (by decide) rfl (fun ls hl => ?_)
          have hl : lv_has ls 8 [(5, .int (nI 1)), (0, .ref b), (1, .ref (aw_r ad 0)), (2, .ref (aw_m ad 0)), (3, .ref (aw_o ad)), (4, .int (nI (6 * t)))] := hl
          refine lv_aload_n hx hb d_La_law_664 rfl (lv_at hl 3 rfl) ?_
          refine lv_aload_n hx hb d_La_law_665 rfl (lv_at hl 1 rfl) ?_
          refine lv_iload hx hb d_La_law_666 (lv_at hl 5 rfl) ?_
          refine lv_iconst (v := nI 1) hx hb d_La_law_668 (by decide +kernel) ?_
          refine lv_iadd hx hb d_La_law_669 ?_
          refine aw_ti (nI_add (6 * t) 1) ?_
          refine va_sld hx hb hX hbl hbA hS (i := (nI ((6 * t) + 1))) (vp_in_nI (by omega) (by omega)) d_La_law_670 ?_
          refine aw_ti (y := c0) (by rw [nI_clamp (by omega)]; exact hc0.symm) ?_
          refine lv_aload_n hx hb d_La_law_671 rfl (lv_at hl 1 rfl) ?_
          refine lv_iload hx hb d_La_law_672 (lv_at hl 5 rfl) ?_
          refine lv_iconst (v := nI 2) hx hb d_La_law_674 (by decide +kernel) ?_
          refine lv_iadd hx hb d_La_law_675 ?_
          refine aw_ti (nI_add (6 * t) 2) ?_
          refine va_sld hx hb hX hbl hbA hS (i := (nI ((6 * t) + 2))) (vp_in_nI (by omega) (by omega)) d_La_law_676 ?_
          refine aw_ti (y := s2) (by rw [nI_clamp (by omega)]; exact hs2.symm) ?_
          have hj244 : ∀ x245 : Int32, (if s2 = 0 then nI 0 else nI 1) = x245 → W p l e room_1 s m #[Value.ref b] below meth c H locs ((85 + t) + 1) ((1246 + 6 * t) + 6) (lw_Z below #[Value.ref b] s) (F0 m 685 ls [.int x245, .int c0, .ref (aw_m ad 0)]) := by
            intro x245 ebx245
            refine lv_aload_n hx hb d_La_law_685 rfl (lv_at hl 1 rfl) ?_
            refine lv_iload hx hb d_La_law_686 (lv_at hl 5 rfl) ?_
            refine lv_iconst (v := nI 3) hx hb d_La_law_688 (by decide +kernel) ?_
            refine lv_iadd hx hb d_La_law_689 ?_
            refine aw_ti (nI_add (6 * t) 3) ?_
            refine va_sld hx hb hX hbl hbA hS (i := (nI ((6 * t) + 3))) (vp_in_nI (by omega) (by omega)) d_La_law_690 ?_
            refine aw_ti (y := fr) (by rw [nI_clamp (by omega)]; exact hfr.symm) ?_
            refine lv_aload_n hx hb d_La_law_691 rfl (lv_at hl 1 rfl) ?_
            refine lv_iload hx hb d_La_law_692 (lv_at hl 5 rfl) ?_
            refine lv_iconst (v := nI 4) hx hb d_La_law_694 (by decide +kernel) ?_
            refine lv_iadd hx hb d_La_law_695 ?_
            refine aw_ti (nI_add (6 * t) 4) ?_
            refine va_sld hx hb hX hbl hbA hS (i := (nI ((6 * t) + 4))) (vp_in_nI (by omega) (by omega)) d_La_law_696 ?_
            refine aw_ti (y := m0) (by rw [nI_clamp (by omega)]; exact hm0.symm) ?_
            obtain ⟨_, he246⟩ := zr_M0 hSh
            refine va_calli (va_runV (As := [.int c0, .int x245, .int fr, .int m0]) (rest := []) ⟨hx, hb, hml, hown, hG⟩ (k_Mo_feedXcV l D g ad N0 zG zO zX zY zA zB zM zI zL zK zN zF zQ c0 x245 fr m0 hc) (aw_wV 4 hG gw_12_26 gw_12_23 gw_0_10 gw_12_24 gw_12_25 rfl rfl hd_Mo_feed ⟨Nat.le_of_ble_eq_true rfl, Nat.le_of_ble_eq_true rfl⟩) (ag_qV (va_recv hK hP rfl he246) hP hD hSh hU hS) rfl rfl hl.1 rfl (lv_room (Nat.le_of_ble_eq_true rfl)) d_La_law_697 ⟨by omega, by omega⟩) hS (fun _ _ h => h) (fun _ h => h) ?_
            clear hP hD hSh hS he246
            intro x247 u8 t8 H locs ht _ ex247 hB _ _ hS
            obtain ⟨L, hP, hD, hSh⟩ := hB
            rw [ht] at hP
            clear ht
            have ex247 := ex247.symm
            refine lv_istore hx hb d_La_law_700 hl (by decide) rfl (fun ls hl => ?_)
            have hl : lv_has ls 8 [(6, .int x247), (5, .int (nI 1)), (0, .ref b), (1, .ref (aw_r ad 0)), (2, .ref (aw_m ad 0)), (3, .ref (aw_o ad)), (4, .int (nI (6 * t)))] := hl
            refine lv_goto (tgt := 854) hx hb d_La_law_702 (by decide) ?_
            refine lv_iinc (k := 6) (v := nI (6 * t + 6)) hx hb d_La_law_854 hl rfl (aw_inc (6 * t) 6 6 (by decide +kernel)) (by decide) rfl (fun ls hl => ?_)
            have hl : lv_has ls 8 [(4, .int (nI (6 * t + 6))), (6, .int x247), (5, .int (nI 1)), (0, .ref b), (1, .ref (aw_r ad 0)), (2, .ref (aw_m ad 0)), (3, .ref (aw_o ad))] := hl
            refine lv_goto (tgt := 23) hx hb d_La_law_857 (by decide) ?_
            have hl := lv_sub hl (l' := [(0, .ref b), (1, .ref (aw_r ad 0)), (2, .ref (aw_m ad 0)), (3, .ref (aw_o ad)), (4, .int (nI (6 * t + 6)))]) [3, 4, 5, 6, 0] rfl
            refine W.widen (k := 85 + (t + 1)) (n := 1246 + 6 * (t + 1)) (by omega) (by omega) ?_
            exact ih (t + 1) zG zO zX zY zA zB zM zI zL zK zN (nI 1) zQ _ _ L ls (by omega) hP hD hSh hR hS (by first | exact hl | simpa [Nat.mul_add] using hl)
          refine lv_if_eq (tgt := 684) hx hb d_La_law_677 (by decide) (fun h9 => ?_) (fun h9 => ?_)
          · refine lv_iconst (v := nI 0) hx hb d_La_law_684 (by decide +kernel) ?_
            exact hj244 _ (if_pos h9)
          · refine lv_iconst (v := nI 1) hx hb d_La_law_680 (by decide +kernel) ?_
            refine lv_goto (tgt := 685) hx hb d_La_law_681 (by decide) ?_
            exact hj244 _ (if_neg h9)
        refine lv_if_eq (tgt := 645) hx hb d_La_law_638 (by decide) (fun h9 => ?_) (fun h9 => ?_)
        · refine lv_iconst (v := nI 0) hx hb d_La_law_645 (by decide +kernel) ?_
          exact hj241 _ (if_pos h9)
        · refine lv_iconst (v := nI 1) hx hb d_La_law_641 (by decide +kernel) ?_
          refine lv_goto (tgt := 646) hx hb d_La_law_642 (by decide) ?_
          exact hj241 _ (if_neg h9)
      · have hgj := hSh.2.2.2.2.1 j hj
        have hq1 : (zM j).1 = (zG j).1 := by rw [hR.1 j hj]
        have hq2 : (zM j).2 = (zG j).2 := by rw [hR.1 j hj]
        rcases aw_buf fr m0 with hi | rfl | ⟨k, mm, rfl, rfl, h0, hk⟩
        · have hi2 := aw_bp hi
          refine lv_aload_n hx hb d_La_law_625 rfl (lv_at hl 1 rfl) ?_
          refine lv_aload_n hx hb d_La_law_626 rfl (lv_at hl 0 rfl) ?_
          refine lv_iload hx hb d_La_law_627 (lv_at hl 4 rfl) ?_
          refine lv_iconst (v := nI 1) hx hb d_La_law_629 (by decide +kernel) ?_
          refine lv_iadd hx hb d_La_law_630 ?_
          refine aw_ti (nI_add (6 * t) 1) ?_
          refine va_sld hx hb hX hbl hbA hS (i := (nI ((6 * t) + 1))) (vp_in_nI (by omega) (by omega)) d_La_law_631 ?_
          refine aw_ti (y := nI j) (by rw [nI_clamp (by omega)]; exact hc0.symm) ?_
          refine lv_aload_n hx hb d_La_law_632 rfl (lv_at hl 0 rfl) ?_
          refine lv_iload hx hb d_La_law_633 (lv_at hl 4 rfl) ?_
          refine lv_iconst (v := nI 2) hx hb d_La_law_635 (by decide +kernel) ?_
          refine lv_iadd hx hb d_La_law_636 ?_
          refine aw_ti (nI_add (6 * t) 2) ?_
          refine va_sld hx hb hX hbl hbA hS (i := (nI ((6 * t) + 2))) (vp_in_nI (by omega) (by omega)) d_La_law_637 ?_
          refine aw_ti (y := s2) (by rw [nI_clamp (by omega)]; exact hs2.symm) ?_
          have hj248 : ∀ x249 : Int32, (if s2 = 0 then nI 0 else nI 1) = x249 → W p l e room_1 s m #[Value.ref b] below meth c H locs (85 + t) (1246 + 6 * t) (lw_Z below #[Value.ref b] s) (F0 m 646 ls [.int x249, .int (nI j), .ref (aw_r ad 0)]) := by
            intro x249 ebx249
            refine lv_aload_n hx hb d_La_law_646 rfl (lv_at hl 0 rfl) ?_
            refine lv_iload hx hb d_La_law_647 (lv_at hl 4 rfl) ?_
            refine lv_iconst (v := nI 3) hx hb d_La_law_649 (by decide +kernel) ?_
            refine lv_iadd hx hb d_La_law_650 ?_
            refine aw_ti (nI_add (6 * t) 3) ?_
            refine va_sld hx hb hX hbl hbA hS (i := (nI ((6 * t) + 3))) (vp_in_nI (by omega) (by omega)) d_La_law_651 ?_
            refine aw_ti (y := fr) (by rw [nI_clamp (by omega)]; exact hfr.symm) ?_
            refine lv_aload_n hx hb d_La_law_652 rfl (lv_at hl 0 rfl) ?_
            refine lv_iload hx hb d_La_law_653 (lv_at hl 4 rfl) ?_
            refine lv_iconst (v := nI 4) hx hb d_La_law_655 (by decide +kernel) ?_
            refine lv_iadd hx hb d_La_law_656 ?_
            refine aw_ti (nI_add (6 * t) 4) ?_
            refine va_sld hx hb hX hbl hbA hS (i := (nI ((6 * t) + 4))) (vp_in_nI (by omega) (by omega)) d_La_law_657 ?_
            refine aw_ti (y := m0) (by rw [nI_clamp (by omega)]; exact hm0.symm) ?_
            refine lv_aload_n hx hb d_La_law_658 rfl (lv_at hl 3 rfl) ?_
            refine va_calli (vx_runSW (As := [.ref (aw_r ad 0), .int (nI j), .int x249, .int fr, .int m0, .ref (aw_o ad)]) (rest := []) ⟨hx, hb, hml, hown, hG⟩ (k_La_feedXbV l hst D g ad N0 zG zO zX zY zA zB zM zI zL zK zN zF zQ j x249 fr m0 hj hi) (aw_wW 6 hG gw_7_42 gw_7_40 gw_0_0 gw_7_41 rfl rfl hd_La_feed ⟨Nat.le_of_ble_eq_true rfl, Nat.le_of_ble_eq_true rfl⟩) (ag_qS hP hD hSh hU hS) rfl rfl hl.1 rfl (lv_room (Nat.le_of_ble_eq_true rfl)) d_La_law_659 ⟨by omega, by omega⟩) hS (fun _ _ h => h) (fun _ h => h) ?_
            clear hP hD hSh hS
            intro x250 u8 t8 H locs ht _ ex250 hB _ _ hS
            obtain ⟨L, hP, hD, hSh⟩ := hB
            rw [ht] at hP
            clear ht
            subst ex250
            refine lv_istore hx hb d_La_law_662 hl (by decide) rfl (fun ls hl => ?_)
            have hl : lv_has ls 8 [(5, .int (nI 1)), (0, .ref b), (1, .ref (aw_r ad 0)), (2, .ref (aw_m ad 0)), (3, .ref (aw_o ad)), (4, .int (nI (6 * t)))] := hl
            refine lv_aload_n hx hb d_La_law_664 rfl (lv_at hl 3 rfl) ?_
            refine lv_aload_n hx hb d_La_law_665 rfl (lv_at hl 1 rfl) ?_
            refine lv_iload hx hb d_La_law_666 (lv_at hl 5 rfl) ?_
            refine lv_iconst (v := nI 1) hx hb d_La_law_668 (by decide +kernel) ?_
            refine lv_iadd hx hb d_La_law_669 ?_
            refine aw_ti (nI_add (6 * t) 1) ?_
            refine va_sld hx hb hX hbl hbA hS (i := (nI ((6 * t) + 1))) (vp_in_nI (by omega) (by omega)) d_La_law_670 ?_
            refine aw_ti (y := nI j) (by rw [nI_clamp (by omega)]; exact hc0.symm) ?_
            refine lv_aload_n hx hb d_La_law_671 rfl (lv_at hl 1 rfl) ?_
            refine lv_iload hx hb d_La_law_672 (lv_at hl 5 rfl) ?_
            refine lv_iconst (v := nI 2) hx hb d_La_law_674 (by decide +kernel) ?_
            refine lv_iadd hx hb d_La_law_675 ?_
            refine aw_ti (nI_add (6 * t) 2) ?_
            refine va_sld hx hb hX hbl hbA hS (i := (nI ((6 * t) + 2))) (vp_in_nI (by omega) (by omega)) d_La_law_676 ?_
            refine aw_ti (y := s2) (by rw [nI_clamp (by omega)]; exact hs2.symm) ?_
            have hj251 : ∀ x252 : Int32, (if s2 = 0 then nI 0 else nI 1) = x252 → W p l e room_1 s m #[Value.ref b] below meth c H locs ((85 + t) + 1) ((1246 + 6 * t) + 6) (lw_Z below #[Value.ref b] s) (F0 m 685 ls [.int x252, .int (nI j), .ref (aw_m ad 0)]) := by
              intro x252 ebx252
              refine lv_aload_n hx hb d_La_law_685 rfl (lv_at hl 1 rfl) ?_
              refine lv_iload hx hb d_La_law_686 (lv_at hl 5 rfl) ?_
              refine lv_iconst (v := nI 3) hx hb d_La_law_688 (by decide +kernel) ?_
              refine lv_iadd hx hb d_La_law_689 ?_
              refine aw_ti (nI_add (6 * t) 3) ?_
              refine va_sld hx hb hX hbl hbA hS (i := (nI ((6 * t) + 3))) (vp_in_nI (by omega) (by omega)) d_La_law_690 ?_
              refine aw_ti (y := fr) (by rw [nI_clamp (by omega)]; exact hfr.symm) ?_
              refine lv_aload_n hx hb d_La_law_691 rfl (lv_at hl 1 rfl) ?_
              refine lv_iload hx hb d_La_law_692 (lv_at hl 5 rfl) ?_
              refine lv_iconst (v := nI 4) hx hb d_La_law_694 (by decide +kernel) ?_
              refine lv_iadd hx hb d_La_law_695 ?_
              refine aw_ti (nI_add (6 * t) 4) ?_
              refine va_sld hx hb hX hbl hbA hS (i := (nI ((6 * t) + 4))) (vp_in_nI (by omega) (by omega)) d_La_law_696 ?_
              refine aw_ti (y := m0) (by rw [nI_clamp (by omega)]; exact hm0.symm) ?_
              obtain ⟨_, he253⟩ := zr_M0 hSh
              refine va_calli (va_runV (As := [.int (nI j), .int x252, .int fr, .int m0]) (rest := []) ⟨hx, hb, hml, hown, hG⟩ (k_Mo_feedXbV l D g ad N0 zG zO zX zY zA zB zM zI zL zK zN zF zQ j x252 fr m0 hj hi2) (aw_wV 4 hG gw_12_26 gw_12_23 gw_0_10 gw_12_24 gw_12_25 rfl rfl hd_Mo_feed ⟨Nat.le_of_ble_eq_true rfl, Nat.le_of_ble_eq_true rfl⟩) (ag_qV (va_recv hK hP rfl he253) hP hD hSh hU hS) rfl rfl hl.1 rfl (lv_room (Nat.le_of_ble_eq_true rfl)) d_La_law_697 ⟨by omega, by omega⟩) hS (fun _ _ h => h) (fun _ h => h) ?_
              clear hP hD hSh hS he253
              intro x254 u8 t8 H locs ht _ ex254 hB _ _ hS
              obtain ⟨L, hP, hD, hSh⟩ := hB
              rw [ht] at hP
              clear ht
              have ex254 := ex254.symm
              refine lv_istore hx hb d_La_law_700 hl (by decide) rfl (fun ls hl => ?_)
              have hl : lv_has ls 8 [(6, .int x254), (5, .int (nI 1)), (0, .ref b), (1, .ref (aw_r ad 0)), (2, .ref (aw_m ad 0)), (3, .ref (aw_o ad)), (4, .int (nI (6 * t)))] := hl
              refine lv_goto (tgt := 854) hx hb d_La_law_702 (by decide) ?_
              refine lv_iinc (k := 6) (v := nI (6 * t + 6)) hx hb d_La_law_854 hl rfl (aw_inc (6 * t) 6 6 (by decide +kernel)) (by decide) rfl (fun ls hl => ?_)
              have hl : lv_has ls 8 [(4, .int (nI (6 * t + 6))), (6, .int x254), (5, .int (nI 1)), (0, .ref b), (1, .ref (aw_r ad 0)), (2, .ref (aw_m ad 0)), (3, .ref (aw_o ad))] := hl
              refine lv_goto (tgt := 23) hx hb d_La_law_857 (by decide) ?_
              have hl := lv_sub hl (l' := [(0, .ref b), (1, .ref (aw_r ad 0)), (2, .ref (aw_m ad 0)), (3, .ref (aw_o ad)), (4, .int (nI (6 * t + 6)))]) [3, 4, 5, 6, 0] rfl
              refine W.widen (k := 85 + (t + 1)) (n := 1246 + 6 * (t + 1)) (by omega) (by omega) ?_
              exact ih (t + 1) zG zO zX zY zA zB zM zI zL zK zN (nI 1) zQ _ _ L ls (by omega) hP hD hSh hR hS (by first | exact hl | simpa [Nat.mul_add] using hl)
            refine lv_if_eq (tgt := 684) hx hb d_La_law_677 (by decide) (fun h9 => ?_) (fun h9 => ?_)
            · refine lv_iconst (v := nI 0) hx hb d_La_law_684 (by decide +kernel) ?_
              exact hj251 _ (if_pos h9)
            · refine lv_iconst (v := nI 1) hx hb d_La_law_680 (by decide +kernel) ?_
              refine lv_goto (tgt := 685) hx hb d_La_law_681 (by decide) ?_
              exact hj251 _ (if_neg h9)
          refine lv_if_eq (tgt := 645) hx hb d_La_law_638 (by decide) (fun h9 => ?_) (fun h9 => ?_)
          · refine lv_iconst (v := nI 0) hx hb d_La_law_645 (by decide +kernel) ?_
            exact hj248 _ (if_pos h9)
          · refine lv_iconst (v := nI 1) hx hb d_La_law_641 (by decide +kernel) ?_
            refine lv_goto (tgt := 646) hx hb d_La_law_642 (by decide) ?_
            exact hj248 _ (if_neg h9)
        · rcases aw_p0f fr with hi | ⟨k, rfl, hk⟩
          · by_cases hs : (zG j).1 = 3
            · by_cases h5 : (zG j).2 = 5
              · refine lv_aload_n hx hb d_La_law_625 rfl (lv_at hl 1 rfl) ?_
                refine lv_aload_n hx hb d_La_law_626 rfl (lv_at hl 0 rfl) ?_
                refine lv_iload hx hb d_La_law_627 (lv_at hl 4 rfl) ?_
                refine lv_iconst (v := nI 1) hx hb d_La_law_629 (by decide +kernel) ?_
                refine lv_iadd hx hb d_La_law_630 ?_
                refine aw_ti (nI_add (6 * t) 1) ?_
                refine va_sld hx hb hX hbl hbA hS (i := (nI ((6 * t) + 1))) (vp_in_nI (by omega) (by omega)) d_La_law_631 ?_
                refine aw_ti (y := nI j) (by rw [nI_clamp (by omega)]; exact hc0.symm) ?_
                refine lv_aload_n hx hb d_La_law_632 rfl (lv_at hl 0 rfl) ?_
                refine lv_iload hx hb d_La_law_633 (lv_at hl 4 rfl) ?_
                refine lv_iconst (v := nI 2) hx hb d_La_law_635 (by decide +kernel) ?_
                refine lv_iadd hx hb d_La_law_636 ?_
                refine aw_ti (nI_add (6 * t) 2) ?_
                refine va_sld hx hb hX hbl hbA hS (i := (nI ((6 * t) + 2))) (vp_in_nI (by omega) (by omega)) d_La_law_637 ?_
                refine aw_ti (y := s2) (by rw [nI_clamp (by omega)]; exact hs2.symm) ?_
                have hj255 : ∀ x256 : Int32, (if s2 = 0 then nI 0 else nI 1) = x256 → W p l e room_1 s m #[Value.ref b] below meth c H locs (85 + t) (1246 + 6 * t) (lw_Z below #[Value.ref b] s) (F0 m 646 ls [.int x256, .int (nI j), .ref (aw_r ad 0)]) := by
                  intro x256 ebx256
                  refine lv_aload_n hx hb d_La_law_646 rfl (lv_at hl 0 rfl) ?_
                  refine lv_iload hx hb d_La_law_647 (lv_at hl 4 rfl) ?_
                  refine lv_iconst (v := nI 3) hx hb d_La_law_649 (by decide +kernel) ?_
                  refine lv_iadd hx hb d_La_law_650 ?_
                  refine aw_ti (nI_add (6 * t) 3) ?_
                  refine va_sld hx hb hX hbl hbA hS (i := (nI ((6 * t) + 3))) (vp_in_nI (by omega) (by omega)) d_La_law_651 ?_
                  refine aw_ti (y := fr) (by rw [nI_clamp (by omega)]; exact hfr.symm) ?_
                  refine lv_aload_n hx hb d_La_law_652 rfl (lv_at hl 0 rfl) ?_
                  refine lv_iload hx hb d_La_law_653 (lv_at hl 4 rfl) ?_
                  refine lv_iconst (v := nI 4) hx hb d_La_law_655 (by decide +kernel) ?_
                  refine lv_iadd hx hb d_La_law_656 ?_
                  refine aw_ti (nI_add (6 * t) 4) ?_
                  refine va_sld hx hb hX hbl hbA hS (i := (nI ((6 * t) + 4))) (vp_in_nI (by omega) (by omega)) d_La_law_657 ?_
                  refine aw_ti (y := nI 0) (by rw [nI_clamp (by omega)]; exact hm0.symm) ?_
                  refine lv_aload_n hx hb d_La_law_658 rfl (lv_at hl 3 rfl) ?_
                  refine va_calli (vx_runSW (As := [.ref (aw_r ad 0), .int (nI j), .int x256, .int fr, .int (nI 0), .ref (aw_o ad)]) (rest := []) ⟨hx, hb, hml, hown, hG⟩ (k_La_feedXs0V l hst D g ad N0 zG zO zX zY zA zB zM zI zL zK zN zF zQ j x256 fr hj (by omega)) (aw_wW 6 hG gw_7_42 gw_7_40 gw_0_0 gw_7_41 rfl rfl hd_La_feed ⟨Nat.le_of_ble_eq_true rfl, Nat.le_of_ble_eq_true rfl⟩) (ag_qS hP hD hSh hU hS) rfl rfl hl.1 rfl (lv_room (Nat.le_of_ble_eq_true rfl)) d_La_law_659 ⟨by omega, by omega⟩) hS (fun _ _ h => h) (fun _ h => h) ?_
                  clear hP hD hSh hS
                  intro x257 u8 t8 H locs ht _ ex257 hB _ _ hS
                  obtain ⟨L, hP, hD, hSh⟩ := hB
                  rw [ht] at hP
                  clear ht
                  subst ex257
                  refine lv_istore hx hb d_La_law_662 hl (by decide) rfl (fun ls hl => ?_)
                  have hl : lv_has ls 8 [(5, .int (nI 2)), (0, .ref b), (1, .ref (aw_r ad 0)), (2, .ref (aw_m ad 0)), (3, .ref (aw_o ad)), (4, .int (nI (6 * t)))] := hl
                  refine lv_aload_n hx hb d_La_law_664 rfl (lv_at hl 3 rfl) ?_
                  refine lv_aload_n hx hb d_La_law_665 rfl (lv_at hl 1 rfl) ?_
                  refine lv_iload hx hb d_La_law_666 (lv_at hl 5 rfl) ?_
                  refine lv_iconst (v := nI 1) hx hb d_La_law_668 (by decide +kernel) ?_
                  refine lv_iadd hx hb d_La_law_669 ?_
                  refine aw_ti (nI_add (6 * t) 1) ?_
                  refine va_sld hx hb hX hbl hbA hS (i := (nI ((6 * t) + 1))) (vp_in_nI (by omega) (by omega)) d_La_law_670 ?_
                  refine aw_ti (y := nI j) (by rw [nI_clamp (by omega)]; exact hc0.symm) ?_
                  refine lv_aload_n hx hb d_La_law_671 rfl (lv_at hl 1 rfl) ?_
                  refine lv_iload hx hb d_La_law_672 (lv_at hl 5 rfl) ?_
                  refine lv_iconst (v := nI 2) hx hb d_La_law_674 (by decide +kernel) ?_
                  refine lv_iadd hx hb d_La_law_675 ?_
                  refine aw_ti (nI_add (6 * t) 2) ?_
                  refine va_sld hx hb hX hbl hbA hS (i := (nI ((6 * t) + 2))) (vp_in_nI (by omega) (by omega)) d_La_law_676 ?_
                  refine aw_ti (y := s2) (by rw [nI_clamp (by omega)]; exact hs2.symm) ?_
                  have hj258 : ∀ x259 : Int32, (if s2 = 0 then nI 0 else nI 1) = x259 → W p l e room_1 s m #[Value.ref b] below meth c H locs ((85 + t) + 1) ((1246 + 6 * t) + 6) (lw_Z below #[Value.ref b] s) (F0 m 685 ls [.int x259, .int (nI j), .ref (aw_m ad 0)]) := by
                    intro x259 ebx259
                    refine lv_aload_n hx hb d_La_law_685 rfl (lv_at hl 1 rfl) ?_
                    refine lv_iload hx hb d_La_law_686 (lv_at hl 5 rfl) ?_
                    refine lv_iconst (v := nI 3) hx hb d_La_law_688 (by decide +kernel) ?_
                    refine lv_iadd hx hb d_La_law_689 ?_
                    refine aw_ti (nI_add (6 * t) 3) ?_
                    refine va_sld hx hb hX hbl hbA hS (i := (nI ((6 * t) + 3))) (vp_in_nI (by omega) (by omega)) d_La_law_690 ?_
                    refine aw_ti (y := fr) (by rw [nI_clamp (by omega)]; exact hfr.symm) ?_
                    refine lv_aload_n hx hb d_La_law_691 rfl (lv_at hl 1 rfl) ?_
                    refine lv_iload hx hb d_La_law_692 (lv_at hl 5 rfl) ?_
                    refine lv_iconst (v := nI 4) hx hb d_La_law_694 (by decide +kernel) ?_
                    refine lv_iadd hx hb d_La_law_695 ?_
                    refine aw_ti (nI_add (6 * t) 4) ?_
                    refine va_sld hx hb hX hbl hbA hS (i := (nI ((6 * t) + 4))) (vp_in_nI (by omega) (by omega)) d_La_law_696 ?_
                    refine aw_ti (y := nI 0) (by rw [nI_clamp (by omega)]; exact hm0.symm) ?_
                    obtain ⟨_, he260⟩ := zr_M0 hSh
                    refine va_calli (va_runV (As := [.int (nI j), .int x259, .int fr, .int (nI 0)]) (rest := []) ⟨hx, hb, hml, hown, hG⟩ (k_Mo_feedXbV l D g ad N0 zG zO zX zY zA zB zM zI zL zK zN zF zQ j x259 fr (nI 0) hj hi) (aw_wV 4 hG gw_12_26 gw_12_23 gw_0_10 gw_12_24 gw_12_25 rfl rfl hd_Mo_feed ⟨Nat.le_of_ble_eq_true rfl, Nat.le_of_ble_eq_true rfl⟩) (ag_qV (va_recv hK hP rfl he260) hP hD hSh hU hS) rfl rfl hl.1 rfl (lv_room (Nat.le_of_ble_eq_true rfl)) d_La_law_697 ⟨by omega, by omega⟩) hS (fun _ _ h => h) (fun _ h => h) ?_
                    clear hP hD hSh hS he260
                    intro x261 u8 t8 H locs ht _ ex261 hB _ _ hS
                    obtain ⟨L, hP, hD, hSh⟩ := hB
                    rw [ht] at hP
                    clear ht
                    have ex261 := ex261.symm
                    refine lv_istore hx hb d_La_law_700 hl (by decide) rfl (fun ls hl => ?_)
                    have hl : lv_has ls 8 [(6, .int x261), (5, .int (nI 2)), (0, .ref b), (1, .ref (aw_r ad 0)), (2, .ref (aw_m ad 0)), (3, .ref (aw_o ad)), (4, .int (nI (6 * t)))] := hl
                    refine lv_goto (tgt := 854) hx hb d_La_law_702 (by decide) ?_
                    refine lv_iinc (k := 6) (v := nI (6 * t + 6)) hx hb d_La_law_854 hl rfl (aw_inc (6 * t) 6 6 (by decide +kernel)) (by decide) rfl (fun ls hl => ?_)
                    have hl : lv_has ls 8 [(4, .int (nI (6 * t + 6))), (6, .int x261), (5, .int (nI 2)), (0, .ref b), (1, .ref (aw_r ad 0)), (2, .ref (aw_m ad 0)), (3, .ref (aw_o ad))] := hl
                    refine lv_goto (tgt := 23) hx hb d_La_law_857 (by decide) ?_
                    have hl := lv_sub hl (l' := [(0, .ref b), (1, .ref (aw_r ad 0)), (2, .ref (aw_m ad 0)), (3, .ref (aw_o ad)), (4, .int (nI (6 * t + 6)))]) [3, 4, 5, 6, 0] rfl
                    refine W.widen (k := 85 + (t + 1)) (n := 1246 + 6 * (t + 1)) (by omega) (by omega) ?_
                    exact ih (t + 1) zG zO zX zY zA zB zM zI zL zK zN (nI 1) zQ _ _ L ls (by omega) hP hD hSh hR hS (by first | exact hl | simpa [Nat.mul_add] using hl)
                  refine lv_if_eq (tgt := 684) hx hb d_La_law_677 (by decide) (fun h9 => ?_) (fun h9 => ?_)
                  · refine lv_iconst (v := nI 0) hx hb d_La_law_684 (by decide +kernel) ?_
                    exact hj258 _ (if_pos h9)
                  · refine lv_iconst (v := nI 1) hx hb d_La_law_680 (by decide +kernel) ?_
                    refine lv_goto (tgt := 685) hx hb d_La_law_681 (by decide) ?_
                    exact hj258 _ (if_neg h9)
                refine lv_if_eq (tgt := 645) hx hb d_La_law_638 (by decide) (fun h9 => ?_) (fun h9 => ?_)
                · refine lv_iconst (v := nI 0) hx hb d_La_law_645 (by decide +kernel) ?_
                  exact hj255 _ (if_pos h9)
                · refine lv_iconst (v := nI 1) hx hb d_La_law_641 (by decide +kernel) ?_
                  refine lv_goto (tgt := 646) hx hb d_La_law_642 (by decide) ?_
                  exact hj255 _ (if_neg h9)
              · by_cases hm : (zG j).2 ≤ 1
                · refine lv_aload_n hx hb d_La_law_625 rfl (lv_at hl 1 rfl) ?_
                  refine lv_aload_n hx hb d_La_law_626 rfl (lv_at hl 0 rfl) ?_
                  refine lv_iload hx hb d_La_law_627 (lv_at hl 4 rfl) ?_
                  refine lv_iconst (v := nI 1) hx hb d_La_law_629 (by decide +kernel) ?_
                  refine lv_iadd hx hb d_La_law_630 ?_
                  refine aw_ti (nI_add (6 * t) 1) ?_
                  refine va_sld hx hb hX hbl hbA hS (i := (nI ((6 * t) + 1))) (vp_in_nI (by omega) (by omega)) d_La_law_631 ?_
                  refine aw_ti (y := nI j) (by rw [nI_clamp (by omega)]; exact hc0.symm) ?_
                  refine lv_aload_n hx hb d_La_law_632 rfl (lv_at hl 0 rfl) ?_
                  refine lv_iload hx hb d_La_law_633 (lv_at hl 4 rfl) ?_
                  refine lv_iconst (v := nI 2) hx hb d_La_law_635 (by decide +kernel) ?_
                  refine lv_iadd hx hb d_La_law_636 ?_
                  refine aw_ti (nI_add (6 * t) 2) ?_
                  refine va_sld hx hb hX hbl hbA hS (i := (nI ((6 * t) + 2))) (vp_in_nI (by omega) (by omega)) d_La_law_637 ?_
                  refine aw_ti (y := s2) (by rw [nI_clamp (by omega)]; exact hs2.symm) ?_
                  have hj262 : ∀ x263 : Int32, (if s2 = 0 then nI 0 else nI 1) = x263 → W p l e room_1 s m #[Value.ref b] below meth c H locs (85 + t) (1246 + 6 * t) (lw_Z below #[Value.ref b] s) (F0 m 646 ls [.int x263, .int (nI j), .ref (aw_r ad 0)]) := by
                    intro x263 ebx263
                    refine lv_aload_n hx hb d_La_law_646 rfl (lv_at hl 0 rfl) ?_
                    refine lv_iload hx hb d_La_law_647 (lv_at hl 4 rfl) ?_
                    refine lv_iconst (v := nI 3) hx hb d_La_law_649 (by decide +kernel) ?_
                    refine lv_iadd hx hb d_La_law_650 ?_
                    refine aw_ti (nI_add (6 * t) 3) ?_
                    refine va_sld hx hb hX hbl hbA hS (i := (nI ((6 * t) + 3))) (vp_in_nI (by omega) (by omega)) d_La_law_651 ?_
                    refine aw_ti (y := fr) (by rw [nI_clamp (by omega)]; exact hfr.symm) ?_
                    refine lv_aload_n hx hb d_La_law_652 rfl (lv_at hl 0 rfl) ?_
                    refine lv_iload hx hb d_La_law_653 (lv_at hl 4 rfl) ?_
                    refine lv_iconst (v := nI 4) hx hb d_La_law_655 (by decide +kernel) ?_
                    refine lv_iadd hx hb d_La_law_656 ?_
                    refine aw_ti (nI_add (6 * t) 4) ?_
                    refine va_sld hx hb hX hbl hbA hS (i := (nI ((6 * t) + 4))) (vp_in_nI (by omega) (by omega)) d_La_law_657 ?_
                    refine aw_ti (y := nI 0) (by rw [nI_clamp (by omega)]; exact hm0.symm) ?_
                    refine lv_aload_n hx hb d_La_law_658 rfl (lv_at hl 3 rfl) ?_
                    refine va_calli (vx_runSW (As := [.ref (aw_r ad 0), .int (nI j), .int x263, .int fr, .int (nI 0), .ref (aw_o ad)]) (rest := []) ⟨hx, hb, hml, hown, hG⟩ (k_La_feed10bV l hst D g ad N0 zG zO zX zY zA zB zM zI zL zK zN zF zQ j x263 fr hj (by omega) (by omega)) (aw_wW 6 hG gw_7_42 gw_7_40 gw_0_0 gw_7_41 rfl rfl hd_La_feed ⟨Nat.le_of_ble_eq_true rfl, Nat.le_of_ble_eq_true rfl⟩) (ag_qS hP hD hSh hU hS) rfl rfl hl.1 rfl (lv_room (Nat.le_of_ble_eq_true rfl)) d_La_law_659 ⟨by omega, by omega⟩) hS (fun _ _ h => h) (fun _ h => h) ?_
                    clear hP hD hSh hS
                    intro x264 u8 t8 H locs ht _ ex264 hB _ _ hS
                    obtain ⟨L, hP, hD, hSh⟩ := hB
                    rw [ht] at hP
                    clear ht
                    subst ex264
                    obtain ⟨zY265, ezY265⟩ : ∃ z : Nat → Nat → Int32, v_La_feed10bV_zY zY j = z := ⟨_, rfl⟩
                    rw [ezY265] at hSh
                    obtain ⟨zQ266, ezQ266⟩ : ∃ z : Int64, v_La_feed10bV_zQ zY j = z := ⟨_, rfl⟩
                    rw [ezQ266] at hSh
                    refine lv_istore hx hb d_La_law_662 hl (by decide) rfl (fun ls hl => ?_)
                    have hl : lv_has ls 8 [(5, .int (nI 0)), (0, .ref b), (1, .ref (aw_r ad 0)), (2, .ref (aw_m ad 0)), (3, .ref (aw_o ad)), (4, .int (nI (6 * t)))] := hl
                    refine lv_aload_n hx hb d_La_law_664 rfl (lv_at hl 3 rfl) ?_
                    refine lv_aload_n hx hb d_La_law_665 rfl (lv_at hl 1 rfl) ?_
                    refine lv_iload hx hb d_La_law_666 (lv_at hl 5 rfl) ?_
                    refine lv_iconst (v := nI 1) hx hb d_La_law_668 (by decide +kernel) ?_
                    refine lv_iadd hx hb d_La_law_669 ?_
                    refine aw_ti (nI_add (6 * t) 1) ?_
                    refine va_sld hx hb hX hbl hbA hS (i := (nI ((6 * t) + 1))) (vp_in_nI (by omega) (by omega)) d_La_law_670 ?_
                    refine aw_ti (y := nI j) (by rw [nI_clamp (by omega)]; exact hc0.symm) ?_
                    refine lv_aload_n hx hb d_La_law_671 rfl (lv_at hl 1 rfl) ?_
                    refine lv_iload hx hb d_La_law_672 (lv_at hl 5 rfl) ?_
                    refine lv_iconst (v := nI 2) hx hb d_La_law_674 (by decide +kernel) ?_
                    refine lv_iadd hx hb d_La_law_675 ?_
                    refine aw_ti (nI_add (6 * t) 2) ?_
                    refine va_sld hx hb hX hbl hbA hS (i := (nI ((6 * t) + 2))) (vp_in_nI (by omega) (by omega)) d_La_law_676 ?_
                    refine aw_ti (y := s2) (by rw [nI_clamp (by omega)]; exact hs2.symm) ?_
                    have hj267 : ∀ x268 : Int32, (if s2 = 0 then nI 0 else nI 1) = x268 → W p l e room_1 s m #[Value.ref b] below meth c H locs ((85 + t) + 1) ((1246 + 6 * t) + 6) (lw_Z below #[Value.ref b] s) (F0 m 685 ls [.int x268, .int (nI j), .ref (aw_m ad 0)]) := by
                      intro x268 ebx268
                      refine lv_aload_n hx hb d_La_law_685 rfl (lv_at hl 1 rfl) ?_
                      refine lv_iload hx hb d_La_law_686 (lv_at hl 5 rfl) ?_
                      refine lv_iconst (v := nI 3) hx hb d_La_law_688 (by decide +kernel) ?_
                      refine lv_iadd hx hb d_La_law_689 ?_
                      refine aw_ti (nI_add (6 * t) 3) ?_
                      refine va_sld hx hb hX hbl hbA hS (i := (nI ((6 * t) + 3))) (vp_in_nI (by omega) (by omega)) d_La_law_690 ?_
                      refine aw_ti (y := fr) (by rw [nI_clamp (by omega)]; exact hfr.symm) ?_
                      refine lv_aload_n hx hb d_La_law_691 rfl (lv_at hl 1 rfl) ?_
                      refine lv_iload hx hb d_La_law_692 (lv_at hl 5 rfl) ?_
                      refine lv_iconst (v := nI 4) hx hb d_La_law_694 (by decide +kernel) ?_
                      refine lv_iadd hx hb d_La_law_695 ?_
                      refine aw_ti (nI_add (6 * t) 4) ?_
                      refine va_sld hx hb hX hbl hbA hS (i := (nI ((6 * t) + 4))) (vp_in_nI (by omega) (by omega)) d_La_law_696 ?_
                      refine aw_ti (y := nI 0) (by rw [nI_clamp (by omega)]; exact hm0.symm) ?_
                      obtain ⟨_, he269⟩ := zr_M0 hSh
                      refine va_calli (va_runV (As := [.int (nI j), .int x268, .int fr, .int (nI 0)]) (rest := []) ⟨hx, hb, hml, hown, hG⟩ (k_Mo_feedXbV l D g ad N0 zG zO zX zY265 zA zB zM zI zL zK zN zF zQ266 j x268 fr (nI 0) hj hi) (aw_wV 4 hG gw_12_26 gw_12_23 gw_0_10 gw_12_24 gw_12_25 rfl rfl hd_Mo_feed ⟨Nat.le_of_ble_eq_true rfl, Nat.le_of_ble_eq_true rfl⟩) (ag_qV (va_recv hK hP rfl he269) hP hD hSh hU hS) rfl rfl hl.1 rfl (lv_room (Nat.le_of_ble_eq_true rfl)) d_La_law_697 ⟨by omega, by omega⟩) hS (fun _ _ h => h) (fun _ h => h) ?_
                      clear hP hD hSh hS he269
                      intro x270 u8 t8 H locs ht _ ex270 hB _ _ hS
                      obtain ⟨L, hP, hD, hSh⟩ := hB
                      rw [ht] at hP
                      clear ht
                      have ex270 := ex270.symm
                      refine lv_istore hx hb d_La_law_700 hl (by decide) rfl (fun ls hl => ?_)
                      have hl : lv_has ls 8 [(6, .int x270), (5, .int (nI 0)), (0, .ref b), (1, .ref (aw_r ad 0)), (2, .ref (aw_m ad 0)), (3, .ref (aw_o ad)), (4, .int (nI (6 * t)))] := hl
                      refine lv_goto (tgt := 854) hx hb d_La_law_702 (by decide) ?_
                      refine lv_iinc (k := 6) (v := nI (6 * t + 6)) hx hb d_La_law_854 hl rfl (aw_inc (6 * t) 6 6 (by decide +kernel)) (by decide) rfl (fun ls hl => ?_)
                      have hl : lv_has ls 8 [(4, .int (nI (6 * t + 6))), (6, .int x270), (5, .int (nI 0)), (0, .ref b), (1, .ref (aw_r ad 0)), (2, .ref (aw_m ad 0)), (3, .ref (aw_o ad))] := hl
                      refine lv_goto (tgt := 23) hx hb d_La_law_857 (by decide) ?_
                      have hl := lv_sub hl (l' := [(0, .ref b), (1, .ref (aw_r ad 0)), (2, .ref (aw_m ad 0)), (3, .ref (aw_o ad)), (4, .int (nI (6 * t + 6)))]) [3, 4, 5, 6, 0] rfl
                      refine W.widen (k := 85 + (t + 1)) (n := 1246 + 6 * (t + 1)) (by omega) (by omega) ?_
                      have hR : az_R zG zO zX zY265 zA zB zM zI zL := by
                        subst ex270 ebx268 ezQ266 ezY265 ebx263
                        exact r_feed10b_Xb hR hj hs hm
                      exact ih (t + 1) zG zO zX zY265 zA zB zM zI zL zK zN (nI 1) zQ266 _ _ L ls (by omega) hP hD hSh hR hS (by first | exact hl | simpa [Nat.mul_add] using hl)
                    refine lv_if_eq (tgt := 684) hx hb d_La_law_677 (by decide) (fun h9 => ?_) (fun h9 => ?_)
                    · refine lv_iconst (v := nI 0) hx hb d_La_law_684 (by decide +kernel) ?_
                      exact hj267 _ (if_pos h9)
                    · refine lv_iconst (v := nI 1) hx hb d_La_law_680 (by decide +kernel) ?_
                      refine lv_goto (tgt := 685) hx hb d_La_law_681 (by decide) ?_
                      exact hj267 _ (if_neg h9)
                  refine lv_if_eq (tgt := 645) hx hb d_La_law_638 (by decide) (fun h9 => ?_) (fun h9 => ?_)
                  · refine lv_iconst (v := nI 0) hx hb d_La_law_645 (by decide +kernel) ?_
                    exact hj262 _ (if_pos h9)
                  · refine lv_iconst (v := nI 1) hx hb d_La_law_641 (by decide +kernel) ?_
                    refine lv_goto (tgt := 646) hx hb d_La_law_642 (by decide) ?_
                    exact hj262 _ (if_neg h9)
                · refine lv_aload_n hx hb d_La_law_625 rfl (lv_at hl 1 rfl) ?_
                  refine lv_aload_n hx hb d_La_law_626 rfl (lv_at hl 0 rfl) ?_
                  refine lv_iload hx hb d_La_law_627 (lv_at hl 4 rfl) ?_
                  refine lv_iconst (v := nI 1) hx hb d_La_law_629 (by decide +kernel) ?_
                  refine lv_iadd hx hb d_La_law_630 ?_
                  refine aw_ti (nI_add (6 * t) 1) ?_
                  refine va_sld hx hb hX hbl hbA hS (i := (nI ((6 * t) + 1))) (vp_in_nI (by omega) (by omega)) d_La_law_631 ?_
                  refine aw_ti (y := nI j) (by rw [nI_clamp (by omega)]; exact hc0.symm) ?_
                  refine lv_aload_n hx hb d_La_law_632 rfl (lv_at hl 0 rfl) ?_
                  refine lv_iload hx hb d_La_law_633 (lv_at hl 4 rfl) ?_
                  refine lv_iconst (v := nI 2) hx hb d_La_law_635 (by decide +kernel) ?_
                  refine lv_iadd hx hb d_La_law_636 ?_
                  refine aw_ti (nI_add (6 * t) 2) ?_
                  refine va_sld hx hb hX hbl hbA hS (i := (nI ((6 * t) + 2))) (vp_in_nI (by omega) (by omega)) d_La_law_637 ?_
                  refine aw_ti (y := s2) (by rw [nI_clamp (by omega)]; exact hs2.symm) ?_
                  have hj271 : ∀ x272 : Int32, (if s2 = 0 then nI 0 else nI 1) = x272 → W p l e room_1 s m #[Value.ref b] below meth c H locs (85 + t) (1246 + 6 * t) (lw_Z below #[Value.ref b] s) (F0 m 646 ls [.int x272, .int (nI j), .ref (aw_r ad 0)]) := by
                    intro x272 ebx272
                    refine lv_aload_n hx hb d_La_law_646 rfl (lv_at hl 0 rfl) ?_
                    refine lv_iload hx hb d_La_law_647 (lv_at hl 4 rfl) ?_
                    refine lv_iconst (v := nI 3) hx hb d_La_law_649 (by decide +kernel) ?_
                    refine lv_iadd hx hb d_La_law_650 ?_
                    refine aw_ti (nI_add (6 * t) 3) ?_
                    refine va_sld hx hb hX hbl hbA hS (i := (nI ((6 * t) + 3))) (vp_in_nI (by omega) (by omega)) d_La_law_651 ?_
                    refine aw_ti (y := fr) (by rw [nI_clamp (by omega)]; exact hfr.symm) ?_
                    refine lv_aload_n hx hb d_La_law_652 rfl (lv_at hl 0 rfl) ?_
                    refine lv_iload hx hb d_La_law_653 (lv_at hl 4 rfl) ?_
                    refine lv_iconst (v := nI 4) hx hb d_La_law_655 (by decide +kernel) ?_
                    refine lv_iadd hx hb d_La_law_656 ?_
                    refine aw_ti (nI_add (6 * t) 4) ?_
                    refine va_sld hx hb hX hbl hbA hS (i := (nI ((6 * t) + 4))) (vp_in_nI (by omega) (by omega)) d_La_law_657 ?_
                    refine aw_ti (y := nI 0) (by rw [nI_clamp (by omega)]; exact hm0.symm) ?_
                    refine lv_aload_n hx hb d_La_law_658 rfl (lv_at hl 3 rfl) ?_
                    refine va_calli (vx_runSW (As := [.ref (aw_r ad 0), .int (nI j), .int x272, .int fr, .int (nI 0), .ref (aw_o ad)]) (rest := []) ⟨hx, hb, hml, hown, hG⟩ (k_La_feed10V l hst D g ad N0 zG zO zX zY zA zB zM zI zL zK zN zF zQ j x272 fr hj (by omega) (by omega) (by omega)) (aw_wW 6 hG gw_7_42 gw_7_40 gw_0_0 gw_7_41 rfl rfl hd_La_feed ⟨Nat.le_of_ble_eq_true rfl, Nat.le_of_ble_eq_true rfl⟩) (ag_qS hP hD hSh hU hS) rfl rfl hl.1 rfl (lv_room (Nat.le_of_ble_eq_true rfl)) d_La_law_659 ⟨by omega, by omega⟩) hS (fun _ _ h => h) (fun _ h => h) ?_
                    clear hP hD hSh hS
                    intro x273 u8 t8 H locs ht _ ex273 hB _ _ hS
                    obtain ⟨L, hP, hD, hSh⟩ := hB
                    rw [ht] at hP
                    clear ht
                    subst ex273
                    obtain ⟨zY274, ezY274⟩ : ∃ z : Nat → Nat → Int32, v_La_feed10V_zY zY j = z := ⟨_, rfl⟩
                    rw [ezY274] at hSh
                    obtain ⟨zQ275, ezQ275⟩ : ∃ z : Int64, v_La_feed10V_zQ zY j = z := ⟨_, rfl⟩
                    rw [ezQ275] at hSh
                    refine lv_istore hx hb d_La_law_662 hl (by decide) rfl (fun ls hl => ?_)
                    have hl : lv_has ls 8 [(5, .int (nI 0)), (0, .ref b), (1, .ref (aw_r ad 0)), (2, .ref (aw_m ad 0)), (3, .ref (aw_o ad)), (4, .int (nI (6 * t)))] := hl
                    refine lv_aload_n hx hb d_La_law_664 rfl (lv_at hl 3 rfl) ?_
                    refine lv_aload_n hx hb d_La_law_665 rfl (lv_at hl 1 rfl) ?_
                    refine lv_iload hx hb d_La_law_666 (lv_at hl 5 rfl) ?_
                    refine lv_iconst (v := nI 1) hx hb d_La_law_668 (by decide +kernel) ?_
                    refine lv_iadd hx hb d_La_law_669 ?_
                    refine aw_ti (nI_add (6 * t) 1) ?_
                    refine va_sld hx hb hX hbl hbA hS (i := (nI ((6 * t) + 1))) (vp_in_nI (by omega) (by omega)) d_La_law_670 ?_
                    refine aw_ti (y := nI j) (by rw [nI_clamp (by omega)]; exact hc0.symm) ?_
                    refine lv_aload_n hx hb d_La_law_671 rfl (lv_at hl 1 rfl) ?_
                    refine lv_iload hx hb d_La_law_672 (lv_at hl 5 rfl) ?_
                    refine lv_iconst (v := nI 2) hx hb d_La_law_674 (by decide +kernel) ?_
                    refine lv_iadd hx hb d_La_law_675 ?_
                    refine aw_ti (nI_add (6 * t) 2) ?_
                    refine va_sld hx hb hX hbl hbA hS (i := (nI ((6 * t) + 2))) (vp_in_nI (by omega) (by omega)) d_La_law_676 ?_
                    refine aw_ti (y := s2) (by rw [nI_clamp (by omega)]; exact hs2.symm) ?_
                    have hj276 : ∀ x277 : Int32, (if s2 = 0 then nI 0 else nI 1) = x277 → W p l e room_1 s m #[Value.ref b] below meth c H locs ((85 + t) + 1) ((1246 + 6 * t) + 6) (lw_Z below #[Value.ref b] s) (F0 m 685 ls [.int x277, .int (nI j), .ref (aw_m ad 0)]) := by
                      intro x277 ebx277
                      refine lv_aload_n hx hb d_La_law_685 rfl (lv_at hl 1 rfl) ?_
                      refine lv_iload hx hb d_La_law_686 (lv_at hl 5 rfl) ?_
                      refine lv_iconst (v := nI 3) hx hb d_La_law_688 (by decide +kernel) ?_
                      refine lv_iadd hx hb d_La_law_689 ?_
                      refine aw_ti (nI_add (6 * t) 3) ?_
                      refine va_sld hx hb hX hbl hbA hS (i := (nI ((6 * t) + 3))) (vp_in_nI (by omega) (by omega)) d_La_law_690 ?_
                      refine aw_ti (y := fr) (by rw [nI_clamp (by omega)]; exact hfr.symm) ?_
                      refine lv_aload_n hx hb d_La_law_691 rfl (lv_at hl 1 rfl) ?_
                      refine lv_iload hx hb d_La_law_692 (lv_at hl 5 rfl) ?_
                      refine lv_iconst (v := nI 4) hx hb d_La_law_694 (by decide +kernel) ?_
                      refine lv_iadd hx hb d_La_law_695 ?_
                      refine aw_ti (nI_add (6 * t) 4) ?_
                      refine va_sld hx hb hX hbl hbA hS (i := (nI ((6 * t) + 4))) (vp_in_nI (by omega) (by omega)) d_La_law_696 ?_
                      refine aw_ti (y := nI 0) (by rw [nI_clamp (by omega)]; exact hm0.symm) ?_
                      obtain ⟨_, he278⟩ := zr_M0 hSh
                      refine va_calli (va_runV (As := [.int (nI j), .int x277, .int fr, .int (nI 0)]) (rest := []) ⟨hx, hb, hml, hown, hG⟩ (k_Mo_feedXbV l D g ad N0 zG zO zX zY274 zA zB zM zI zL zK zN zF zQ275 j x277 fr (nI 0) hj hi) (aw_wV 4 hG gw_12_26 gw_12_23 gw_0_10 gw_12_24 gw_12_25 rfl rfl hd_Mo_feed ⟨Nat.le_of_ble_eq_true rfl, Nat.le_of_ble_eq_true rfl⟩) (ag_qV (va_recv hK hP rfl he278) hP hD hSh hU hS) rfl rfl hl.1 rfl (lv_room (Nat.le_of_ble_eq_true rfl)) d_La_law_697 ⟨by omega, by omega⟩) hS (fun _ _ h => h) (fun _ h => h) ?_
                      clear hP hD hSh hS he278
                      intro x279 u8 t8 H locs ht _ ex279 hB _ _ hS
                      obtain ⟨L, hP, hD, hSh⟩ := hB
                      rw [ht] at hP
                      clear ht
                      have ex279 := ex279.symm
                      refine lv_istore hx hb d_La_law_700 hl (by decide) rfl (fun ls hl => ?_)
                      have hl : lv_has ls 8 [(6, .int x279), (5, .int (nI 0)), (0, .ref b), (1, .ref (aw_r ad 0)), (2, .ref (aw_m ad 0)), (3, .ref (aw_o ad)), (4, .int (nI (6 * t)))] := hl
                      refine lv_goto (tgt := 854) hx hb d_La_law_702 (by decide) ?_
                      refine lv_iinc (k := 6) (v := nI (6 * t + 6)) hx hb d_La_law_854 hl rfl (aw_inc (6 * t) 6 6 (by decide +kernel)) (by decide) rfl (fun ls hl => ?_)
                      have hl : lv_has ls 8 [(4, .int (nI (6 * t + 6))), (6, .int x279), (5, .int (nI 0)), (0, .ref b), (1, .ref (aw_r ad 0)), (2, .ref (aw_m ad 0)), (3, .ref (aw_o ad))] := hl
                      refine lv_goto (tgt := 23) hx hb d_La_law_857 (by decide) ?_
                      have hl := lv_sub hl (l' := [(0, .ref b), (1, .ref (aw_r ad 0)), (2, .ref (aw_m ad 0)), (3, .ref (aw_o ad)), (4, .int (nI (6 * t + 6)))]) [3, 4, 5, 6, 0] rfl
                      refine W.widen (k := 85 + (t + 1)) (n := 1246 + 6 * (t + 1)) (by omega) (by omega) ?_
                      have hR : az_R zG zO zX zY274 zA zB zM zI zL := by
                        subst ex279 ebx277 ezQ275 ezY274 ebx272
                        exact r_feed10_Xb hR hj hs (by omega)
                      exact ih (t + 1) zG zO zX zY274 zA zB zM zI zL zK zN (nI 1) zQ275 _ _ L ls (by omega) hP hD hSh hR hS (by first | exact hl | simpa [Nat.mul_add] using hl)
                    refine lv_if_eq (tgt := 684) hx hb d_La_law_677 (by decide) (fun h9 => ?_) (fun h9 => ?_)
                    · refine lv_iconst (v := nI 0) hx hb d_La_law_684 (by decide +kernel) ?_
                      exact hj276 _ (if_pos h9)
                    · refine lv_iconst (v := nI 1) hx hb d_La_law_680 (by decide +kernel) ?_
                      refine lv_goto (tgt := 685) hx hb d_La_law_681 (by decide) ?_
                      exact hj276 _ (if_neg h9)
                  refine lv_if_eq (tgt := 645) hx hb d_La_law_638 (by decide) (fun h9 => ?_) (fun h9 => ?_)
                  · refine lv_iconst (v := nI 0) hx hb d_La_law_645 (by decide +kernel) ?_
                    exact hj271 _ (if_pos h9)
                  · refine lv_iconst (v := nI 1) hx hb d_La_law_641 (by decide +kernel) ?_
                    refine lv_goto (tgt := 646) hx hb d_La_law_642 (by decide) ?_
                    exact hj271 _ (if_neg h9)
            · refine lv_aload_n hx hb d_La_law_625 rfl (lv_at hl 1 rfl) ?_
              refine lv_aload_n hx hb d_La_law_626 rfl (lv_at hl 0 rfl) ?_
              refine lv_iload hx hb d_La_law_627 (lv_at hl 4 rfl) ?_
              refine lv_iconst (v := nI 1) hx hb d_La_law_629 (by decide +kernel) ?_
              refine lv_iadd hx hb d_La_law_630 ?_
              refine aw_ti (nI_add (6 * t) 1) ?_
              refine va_sld hx hb hX hbl hbA hS (i := (nI ((6 * t) + 1))) (vp_in_nI (by omega) (by omega)) d_La_law_631 ?_
              refine aw_ti (y := nI j) (by rw [nI_clamp (by omega)]; exact hc0.symm) ?_
              refine lv_aload_n hx hb d_La_law_632 rfl (lv_at hl 0 rfl) ?_
              refine lv_iload hx hb d_La_law_633 (lv_at hl 4 rfl) ?_
              refine lv_iconst (v := nI 2) hx hb d_La_law_635 (by decide +kernel) ?_
              refine lv_iadd hx hb d_La_law_636 ?_
              refine aw_ti (nI_add (6 * t) 2) ?_
              refine va_sld hx hb hX hbl hbA hS (i := (nI ((6 * t) + 2))) (vp_in_nI (by omega) (by omega)) d_La_law_637 ?_
              refine aw_ti (y := s2) (by rw [nI_clamp (by omega)]; exact hs2.symm) ?_
              have hj280 : ∀ x281 : Int32, (if s2 = 0 then nI 0 else nI 1) = x281 → W p l e room_1 s m #[Value.ref b] below meth c H locs (85 + t) (1246 + 6 * t) (lw_Z below #[Value.ref b] s) (F0 m 646 ls [.int x281, .int (nI j), .ref (aw_r ad 0)]) := by
                intro x281 ebx281
                refine lv_aload_n hx hb d_La_law_646 rfl (lv_at hl 0 rfl) ?_
                refine lv_iload hx hb d_La_law_647 (lv_at hl 4 rfl) ?_
                refine lv_iconst (v := nI 3) hx hb d_La_law_649 (by decide +kernel) ?_
                refine lv_iadd hx hb d_La_law_650 ?_
                refine aw_ti (nI_add (6 * t) 3) ?_
                refine va_sld hx hb hX hbl hbA hS (i := (nI ((6 * t) + 3))) (vp_in_nI (by omega) (by omega)) d_La_law_651 ?_
                refine aw_ti (y := fr) (by rw [nI_clamp (by omega)]; exact hfr.symm) ?_
                refine lv_aload_n hx hb d_La_law_652 rfl (lv_at hl 0 rfl) ?_
                refine lv_iload hx hb d_La_law_653 (lv_at hl 4 rfl) ?_
                refine lv_iconst (v := nI 4) hx hb d_La_law_655 (by decide +kernel) ?_
                refine lv_iadd hx hb d_La_law_656 ?_
                refine aw_ti (nI_add (6 * t) 4) ?_
                refine va_sld hx hb hX hbl hbA hS (i := (nI ((6 * t) + 4))) (vp_in_nI (by omega) (by omega)) d_La_law_657 ?_
                refine aw_ti (y := nI 0) (by rw [nI_clamp (by omega)]; exact hm0.symm) ?_
                refine lv_aload_n hx hb d_La_law_658 rfl (lv_at hl 3 rfl) ?_
                refine va_calli (vx_runSW (As := [.ref (aw_r ad 0), .int (nI j), .int x281, .int fr, .int (nI 0), .ref (aw_o ad)]) (rest := []) ⟨hx, hb, hml, hown, hG⟩ (k_La_feedXs0V l hst D g ad N0 zG zO zX zY zA zB zM zI zL zK zN zF zQ j x281 fr hj (by omega)) (aw_wW 6 hG gw_7_42 gw_7_40 gw_0_0 gw_7_41 rfl rfl hd_La_feed ⟨Nat.le_of_ble_eq_true rfl, Nat.le_of_ble_eq_true rfl⟩) (ag_qS hP hD hSh hU hS) rfl rfl hl.1 rfl (lv_room (Nat.le_of_ble_eq_true rfl)) d_La_law_659 ⟨by omega, by omega⟩) hS (fun _ _ h => h) (fun _ h => h) ?_
                clear hP hD hSh hS
                intro x282 u8 t8 H locs ht _ ex282 hB _ _ hS
                obtain ⟨L, hP, hD, hSh⟩ := hB
                rw [ht] at hP
                clear ht
                subst ex282
                refine lv_istore hx hb d_La_law_662 hl (by decide) rfl (fun ls hl => ?_)
                have hl : lv_has ls 8 [(5, .int (nI 2)), (0, .ref b), (1, .ref (aw_r ad 0)), (2, .ref (aw_m ad 0)), (3, .ref (aw_o ad)), (4, .int (nI (6 * t)))] := hl
                refine lv_aload_n hx hb d_La_law_664 rfl (lv_at hl 3 rfl) ?_
                refine lv_aload_n hx hb d_La_law_665 rfl (lv_at hl 1 rfl) ?_
                refine lv_iload hx hb d_La_law_666 (lv_at hl 5 rfl) ?_
                refine lv_iconst (v := nI 1) hx hb d_La_law_668 (by decide +kernel) ?_
                refine lv_iadd hx hb d_La_law_669 ?_
                refine aw_ti (nI_add (6 * t) 1) ?_
                refine va_sld hx hb hX hbl hbA hS (i := (nI ((6 * t) + 1))) (vp_in_nI (by omega) (by omega)) d_La_law_670 ?_
                refine aw_ti (y := nI j) (by rw [nI_clamp (by omega)]; exact hc0.symm) ?_
                refine lv_aload_n hx hb d_La_law_671 rfl (lv_at hl 1 rfl) ?_
                refine lv_iload hx hb d_La_law_672 (lv_at hl 5 rfl) ?_
                refine lv_iconst (v := nI 2) hx hb d_La_law_674 (by decide +kernel) ?_
                refine lv_iadd hx hb d_La_law_675 ?_
                refine aw_ti (nI_add (6 * t) 2) ?_
                refine va_sld hx hb hX hbl hbA hS (i := (nI ((6 * t) + 2))) (vp_in_nI (by omega) (by omega)) d_La_law_676 ?_
                refine aw_ti (y := s2) (by rw [nI_clamp (by omega)]; exact hs2.symm) ?_
                have hj283 : ∀ x284 : Int32, (if s2 = 0 then nI 0 else nI 1) = x284 → W p l e room_1 s m #[Value.ref b] below meth c H locs ((85 + t) + 1) ((1246 + 6 * t) + 6) (lw_Z below #[Value.ref b] s) (F0 m 685 ls [.int x284, .int (nI j), .ref (aw_m ad 0)]) := by
                  intro x284 ebx284
                  refine lv_aload_n hx hb d_La_law_685 rfl (lv_at hl 1 rfl) ?_
                  refine lv_iload hx hb d_La_law_686 (lv_at hl 5 rfl) ?_
                  refine lv_iconst (v := nI 3) hx hb d_La_law_688 (by decide +kernel) ?_
                  refine lv_iadd hx hb d_La_law_689 ?_
                  refine aw_ti (nI_add (6 * t) 3) ?_
                  refine va_sld hx hb hX hbl hbA hS (i := (nI ((6 * t) + 3))) (vp_in_nI (by omega) (by omega)) d_La_law_690 ?_
                  refine aw_ti (y := fr) (by rw [nI_clamp (by omega)]; exact hfr.symm) ?_
                  refine lv_aload_n hx hb d_La_law_691 rfl (lv_at hl 1 rfl) ?_
                  refine lv_iload hx hb d_La_law_692 (lv_at hl 5 rfl) ?_
                  refine lv_iconst (v := nI 4) hx hb d_La_law_694 (by decide +kernel) ?_
                  refine lv_iadd hx hb d_La_law_695 ?_
                  refine aw_ti (nI_add (6 * t) 4) ?_
                  refine va_sld hx hb hX hbl hbA hS (i := (nI ((6 * t) + 4))) (vp_in_nI (by omega) (by omega)) d_La_law_696 ?_
                  refine aw_ti (y := nI 0) (by rw [nI_clamp (by omega)]; exact hm0.symm) ?_
                  obtain ⟨_, he285⟩ := zr_M0 hSh
                  refine va_calli (va_runV (As := [.int (nI j), .int x284, .int fr, .int (nI 0)]) (rest := []) ⟨hx, hb, hml, hown, hG⟩ (k_Mo_feedXbV l D g ad N0 zG zO zX zY zA zB zM zI zL zK zN zF zQ j x284 fr (nI 0) hj hi) (aw_wV 4 hG gw_12_26 gw_12_23 gw_0_10 gw_12_24 gw_12_25 rfl rfl hd_Mo_feed ⟨Nat.le_of_ble_eq_true rfl, Nat.le_of_ble_eq_true rfl⟩) (ag_qV (va_recv hK hP rfl he285) hP hD hSh hU hS) rfl rfl hl.1 rfl (lv_room (Nat.le_of_ble_eq_true rfl)) d_La_law_697 ⟨by omega, by omega⟩) hS (fun _ _ h => h) (fun _ h => h) ?_
                  clear hP hD hSh hS he285
                  intro x286 u8 t8 H locs ht _ ex286 hB _ _ hS
                  obtain ⟨L, hP, hD, hSh⟩ := hB
                  rw [ht] at hP
                  clear ht
                  have ex286 := ex286.symm
                  refine lv_istore hx hb d_La_law_700 hl (by decide) rfl (fun ls hl => ?_)
                  have hl : lv_has ls 8 [(6, .int x286), (5, .int (nI 2)), (0, .ref b), (1, .ref (aw_r ad 0)), (2, .ref (aw_m ad 0)), (3, .ref (aw_o ad)), (4, .int (nI (6 * t)))] := hl
                  refine lv_goto (tgt := 854) hx hb d_La_law_702 (by decide) ?_
                  refine lv_iinc (k := 6) (v := nI (6 * t + 6)) hx hb d_La_law_854 hl rfl (aw_inc (6 * t) 6 6 (by decide +kernel)) (by decide) rfl (fun ls hl => ?_)
                  have hl : lv_has ls 8 [(4, .int (nI (6 * t + 6))), (6, .int x286), (5, .int (nI 2)), (0, .ref b), (1, .ref (aw_r ad 0)), (2, .ref (aw_m ad 0)), (3, .ref (aw_o ad))] := hl
                  refine lv_goto (tgt := 23) hx hb d_La_law_857 (by decide) ?_
                  have hl := lv_sub hl (l' := [(0, .ref b), (1, .ref (aw_r ad 0)), (2, .ref (aw_m ad 0)), (3, .ref (aw_o ad)), (4, .int (nI (6 * t + 6)))]) [3, 4, 5, 6, 0] rfl
                  refine W.widen (k := 85 + (t + 1)) (n := 1246 + 6 * (t + 1)) (by omega) (by omega) ?_
                  exact ih (t + 1) zG zO zX zY zA zB zM zI zL zK zN (nI 1) zQ _ _ L ls (by omega) hP hD hSh hR hS (by first | exact hl | simpa [Nat.mul_add] using hl)
                refine lv_if_eq (tgt := 684) hx hb d_La_law_677 (by decide) (fun h9 => ?_) (fun h9 => ?_)
                · refine lv_iconst (v := nI 0) hx hb d_La_law_684 (by decide +kernel) ?_
                  exact hj283 _ (if_pos h9)
                · refine lv_iconst (v := nI 1) hx hb d_La_law_680 (by decide +kernel) ?_
                  refine lv_goto (tgt := 685) hx hb d_La_law_681 (by decide) ?_
                  exact hj283 _ (if_neg h9)
              refine lv_if_eq (tgt := 645) hx hb d_La_law_638 (by decide) (fun h9 => ?_) (fun h9 => ?_)
              · refine lv_iconst (v := nI 0) hx hb d_La_law_645 (by decide +kernel) ?_
                exact hj280 _ (if_pos h9)
              · refine lv_iconst (v := nI 1) hx hb d_La_law_641 (by decide +kernel) ?_
                refine lv_goto (tgt := 646) hx hb d_La_law_642 (by decide) ?_
                exact hj280 _ (if_neg h9)
          · by_cases hs : (zG j).1 = 3
            · by_cases h5 : (zG j).2 = 5
              · refine lv_aload_n hx hb d_La_law_625 rfl (lv_at hl 1 rfl) ?_
                refine lv_aload_n hx hb d_La_law_626 rfl (lv_at hl 0 rfl) ?_
                refine lv_iload hx hb d_La_law_627 (lv_at hl 4 rfl) ?_
                refine lv_iconst (v := nI 1) hx hb d_La_law_629 (by decide +kernel) ?_
                refine lv_iadd hx hb d_La_law_630 ?_
                refine aw_ti (nI_add (6 * t) 1) ?_
                refine va_sld hx hb hX hbl hbA hS (i := (nI ((6 * t) + 1))) (vp_in_nI (by omega) (by omega)) d_La_law_631 ?_
                refine aw_ti (y := nI j) (by rw [nI_clamp (by omega)]; exact hc0.symm) ?_
                refine lv_aload_n hx hb d_La_law_632 rfl (lv_at hl 0 rfl) ?_
                refine lv_iload hx hb d_La_law_633 (lv_at hl 4 rfl) ?_
                refine lv_iconst (v := nI 2) hx hb d_La_law_635 (by decide +kernel) ?_
                refine lv_iadd hx hb d_La_law_636 ?_
                refine aw_ti (nI_add (6 * t) 2) ?_
                refine va_sld hx hb hX hbl hbA hS (i := (nI ((6 * t) + 2))) (vp_in_nI (by omega) (by omega)) d_La_law_637 ?_
                refine aw_ti (y := s2) (by rw [nI_clamp (by omega)]; exact hs2.symm) ?_
                have hj287 : ∀ x288 : Int32, (if s2 = 0 then nI 0 else nI 1) = x288 → W p l e room_1 s m #[Value.ref b] below meth c H locs (85 + t) (1246 + 6 * t) (lw_Z below #[Value.ref b] s) (F0 m 646 ls [.int x288, .int (nI j), .ref (aw_r ad 0)]) := by
                  intro x288 ebx288
                  refine lv_aload_n hx hb d_La_law_646 rfl (lv_at hl 0 rfl) ?_
                  refine lv_iload hx hb d_La_law_647 (lv_at hl 4 rfl) ?_
                  refine lv_iconst (v := nI 3) hx hb d_La_law_649 (by decide +kernel) ?_
                  refine lv_iadd hx hb d_La_law_650 ?_
                  refine aw_ti (nI_add (6 * t) 3) ?_
                  refine va_sld hx hb hX hbl hbA hS (i := (nI ((6 * t) + 3))) (vp_in_nI (by omega) (by omega)) d_La_law_651 ?_
                  refine aw_ti (y := nI k) (by rw [nI_clamp (by omega)]; exact hfr.symm) ?_
                  refine lv_aload_n hx hb d_La_law_652 rfl (lv_at hl 0 rfl) ?_
                  refine lv_iload hx hb d_La_law_653 (lv_at hl 4 rfl) ?_
                  refine lv_iconst (v := nI 4) hx hb d_La_law_655 (by decide +kernel) ?_
                  refine lv_iadd hx hb d_La_law_656 ?_
                  refine aw_ti (nI_add (6 * t) 4) ?_
                  refine va_sld hx hb hX hbl hbA hS (i := (nI ((6 * t) + 4))) (vp_in_nI (by omega) (by omega)) d_La_law_657 ?_
                  refine aw_ti (y := nI 0) (by rw [nI_clamp (by omega)]; exact hm0.symm) ?_
                  refine lv_aload_n hx hb d_La_law_658 rfl (lv_at hl 3 rfl) ?_
                  refine va_calli (vx_runSW (As := [.ref (aw_r ad 0), .int (nI j), .int x288, .int (nI k), .int (nI 0), .ref (aw_o ad)]) (rest := []) ⟨hx, hb, hml, hown, hG⟩ (k_La_feedXs0V l hst D g ad N0 zG zO zX zY zA zB zM zI zL zK zN zF zQ j x288 (nI k) hj (by omega)) (aw_wW 6 hG gw_7_42 gw_7_40 gw_0_0 gw_7_41 rfl rfl hd_La_feed ⟨Nat.le_of_ble_eq_true rfl, Nat.le_of_ble_eq_true rfl⟩) (ag_qS hP hD hSh hU hS) rfl rfl hl.1 rfl (lv_room (Nat.le_of_ble_eq_true rfl)) d_La_law_659 ⟨by omega, by omega⟩) hS (fun _ _ h => h) (fun _ h => h) ?_
                  clear hP hD hSh hS
                  intro x289 u8 t8 H locs ht _ ex289 hB _ _ hS
                  obtain ⟨L, hP, hD, hSh⟩ := hB
                  rw [ht] at hP
                  clear ht
                  subst ex289
                  refine lv_istore hx hb d_La_law_662 hl (by decide) rfl (fun ls hl => ?_)
                  have hl : lv_has ls 8 [(5, .int (nI 2)), (0, .ref b), (1, .ref (aw_r ad 0)), (2, .ref (aw_m ad 0)), (3, .ref (aw_o ad)), (4, .int (nI (6 * t)))] := hl
                  refine lv_aload_n hx hb d_La_law_664 rfl (lv_at hl 3 rfl) ?_
                  refine lv_aload_n hx hb d_La_law_665 rfl (lv_at hl 1 rfl) ?_
                  refine lv_iload hx hb d_La_law_666 (lv_at hl 5 rfl) ?_
                  refine lv_iconst (v := nI 1) hx hb d_La_law_668 (by decide +kernel) ?_
                  refine lv_iadd hx hb d_La_law_669 ?_
                  refine aw_ti (nI_add (6 * t) 1) ?_
                  refine va_sld hx hb hX hbl hbA hS (i := (nI ((6 * t) + 1))) (vp_in_nI (by omega) (by omega)) d_La_law_670 ?_
                  refine aw_ti (y := nI j) (by rw [nI_clamp (by omega)]; exact hc0.symm) ?_
                  refine lv_aload_n hx hb d_La_law_671 rfl (lv_at hl 1 rfl) ?_
                  refine lv_iload hx hb d_La_law_672 (lv_at hl 5 rfl) ?_
                  refine lv_iconst (v := nI 2) hx hb d_La_law_674 (by decide +kernel) ?_
                  refine lv_iadd hx hb d_La_law_675 ?_
                  refine aw_ti (nI_add (6 * t) 2) ?_
                  refine va_sld hx hb hX hbl hbA hS (i := (nI ((6 * t) + 2))) (vp_in_nI (by omega) (by omega)) d_La_law_676 ?_
                  refine aw_ti (y := s2) (by rw [nI_clamp (by omega)]; exact hs2.symm) ?_
                  have hj290 : ∀ x291 : Int32, (if s2 = 0 then nI 0 else nI 1) = x291 → W p l e room_1 s m #[Value.ref b] below meth c H locs ((85 + t) + 1) ((1246 + 6 * t) + 6) (lw_Z below #[Value.ref b] s) (F0 m 685 ls [.int x291, .int (nI j), .ref (aw_m ad 0)]) := by
                    intro x291 ebx291
                    refine lv_aload_n hx hb d_La_law_685 rfl (lv_at hl 1 rfl) ?_
                    refine lv_iload hx hb d_La_law_686 (lv_at hl 5 rfl) ?_
                    refine lv_iconst (v := nI 3) hx hb d_La_law_688 (by decide +kernel) ?_
                    refine lv_iadd hx hb d_La_law_689 ?_
                    refine aw_ti (nI_add (6 * t) 3) ?_
                    refine va_sld hx hb hX hbl hbA hS (i := (nI ((6 * t) + 3))) (vp_in_nI (by omega) (by omega)) d_La_law_690 ?_
                    refine aw_ti (y := nI k) (by rw [nI_clamp (by omega)]; exact hfr.symm) ?_
                    refine lv_aload_n hx hb d_La_law_691 rfl (lv_at hl 1 rfl) ?_
                    refine lv_iload hx hb d_La_law_692 (lv_at hl 5 rfl) ?_
                    refine lv_iconst (v := nI 4) hx hb d_La_law_694 (by decide +kernel) ?_
                    refine lv_iadd hx hb d_La_law_695 ?_
                    refine aw_ti (nI_add (6 * t) 4) ?_
                    refine va_sld hx hb hX hbl hbA hS (i := (nI ((6 * t) + 4))) (vp_in_nI (by omega) (by omega)) d_La_law_696 ?_
                    refine aw_ti (y := nI 0) (by rw [nI_clamp (by omega)]; exact hm0.symm) ?_
                    obtain ⟨_, he292⟩ := zr_M0 hSh
                    refine va_calli (va_runV (As := [.int (nI j), .int x291, .int (nI k), .int (nI 0)]) (rest := []) ⟨hx, hb, hml, hown, hG⟩ (k_Mo_feedXsV l D g ad N0 zG zO zX zY zA zB zM zI zL zK zN zF zQ j x291 k 0 hj (by omega) (by omega)) (aw_wV 4 hG gw_12_26 gw_12_23 gw_0_10 gw_12_24 gw_12_25 rfl rfl hd_Mo_feed ⟨Nat.le_of_ble_eq_true rfl, Nat.le_of_ble_eq_true rfl⟩) (ag_qV (va_recv hK hP rfl he292) hP hD hSh hU hS) rfl rfl hl.1 rfl (lv_room (Nat.le_of_ble_eq_true rfl)) d_La_law_697 ⟨by omega, by omega⟩) hS (fun _ _ h => h) (fun _ h => h) ?_
                    clear hP hD hSh hS he292
                    intro x293 u8 t8 H locs ht _ ex293 hB _ _ hS
                    obtain ⟨L, hP, hD, hSh⟩ := hB
                    rw [ht] at hP
                    clear ht
                    have ex293 := ex293.symm
                    refine lv_istore hx hb d_La_law_700 hl (by decide) rfl (fun ls hl => ?_)
                    have hl : lv_has ls 8 [(6, .int x293), (5, .int (nI 2)), (0, .ref b), (1, .ref (aw_r ad 0)), (2, .ref (aw_m ad 0)), (3, .ref (aw_o ad)), (4, .int (nI (6 * t)))] := hl
                    refine lv_goto (tgt := 854) hx hb d_La_law_702 (by decide) ?_
                    refine lv_iinc (k := 6) (v := nI (6 * t + 6)) hx hb d_La_law_854 hl rfl (aw_inc (6 * t) 6 6 (by decide +kernel)) (by decide) rfl (fun ls hl => ?_)
                    have hl : lv_has ls 8 [(4, .int (nI (6 * t + 6))), (6, .int x293), (5, .int (nI 2)), (0, .ref b), (1, .ref (aw_r ad 0)), (2, .ref (aw_m ad 0)), (3, .ref (aw_o ad))] := hl
                    refine lv_goto (tgt := 23) hx hb d_La_law_857 (by decide) ?_
                    have hl := lv_sub hl (l' := [(0, .ref b), (1, .ref (aw_r ad 0)), (2, .ref (aw_m ad 0)), (3, .ref (aw_o ad)), (4, .int (nI (6 * t + 6)))]) [3, 4, 5, 6, 0] rfl
                    refine W.widen (k := 85 + (t + 1)) (n := 1246 + 6 * (t + 1)) (by omega) (by omega) ?_
                    exact ih (t + 1) zG zO zX zY zA zB zM zI zL zK zN (nI 2) zQ _ _ L ls (by omega) hP hD hSh hR hS (by first | exact hl | simpa [Nat.mul_add] using hl)
                  refine lv_if_eq (tgt := 684) hx hb d_La_law_677 (by decide) (fun h9 => ?_) (fun h9 => ?_)
                  · refine lv_iconst (v := nI 0) hx hb d_La_law_684 (by decide +kernel) ?_
                    exact hj290 _ (if_pos h9)
                  · refine lv_iconst (v := nI 1) hx hb d_La_law_680 (by decide +kernel) ?_
                    refine lv_goto (tgt := 685) hx hb d_La_law_681 (by decide) ?_
                    exact hj290 _ (if_neg h9)
                refine lv_if_eq (tgt := 645) hx hb d_La_law_638 (by decide) (fun h9 => ?_) (fun h9 => ?_)
                · refine lv_iconst (v := nI 0) hx hb d_La_law_645 (by decide +kernel) ?_
                  exact hj287 _ (if_pos h9)
                · refine lv_iconst (v := nI 1) hx hb d_La_law_641 (by decide +kernel) ?_
                  refine lv_goto (tgt := 646) hx hb d_La_law_642 (by decide) ?_
                  exact hj287 _ (if_neg h9)
              · by_cases hm : (zG j).2 ≤ 1
                · obtain ⟨kc, hkc, hci, hco⟩ := hR.2.1 j hj (by omega)
                  refine lv_aload_n hx hb d_La_law_625 rfl (lv_at hl 1 rfl) ?_
                  refine lv_aload_n hx hb d_La_law_626 rfl (lv_at hl 0 rfl) ?_
                  refine lv_iload hx hb d_La_law_627 (lv_at hl 4 rfl) ?_
                  refine lv_iconst (v := nI 1) hx hb d_La_law_629 (by decide +kernel) ?_
                  refine lv_iadd hx hb d_La_law_630 ?_
                  refine aw_ti (nI_add (6 * t) 1) ?_
                  refine va_sld hx hb hX hbl hbA hS (i := (nI ((6 * t) + 1))) (vp_in_nI (by omega) (by omega)) d_La_law_631 ?_
                  refine aw_ti (y := nI j) (by rw [nI_clamp (by omega)]; exact hc0.symm) ?_
                  refine lv_aload_n hx hb d_La_law_632 rfl (lv_at hl 0 rfl) ?_
                  refine lv_iload hx hb d_La_law_633 (lv_at hl 4 rfl) ?_
                  refine lv_iconst (v := nI 2) hx hb d_La_law_635 (by decide +kernel) ?_
                  refine lv_iadd hx hb d_La_law_636 ?_
                  refine aw_ti (nI_add (6 * t) 2) ?_
                  refine va_sld hx hb hX hbl hbA hS (i := (nI ((6 * t) + 2))) (vp_in_nI (by omega) (by omega)) d_La_law_637 ?_
                  refine aw_ti (y := s2) (by rw [nI_clamp (by omega)]; exact hs2.symm) ?_
                  have hj294 : ∀ x295 : Int32, (if s2 = 0 then nI 0 else nI 1) = x295 → W p l e room_1 s m #[Value.ref b] below meth c H locs (85 + t) (1246 + 6 * t) (lw_Z below #[Value.ref b] s) (F0 m 646 ls [.int x295, .int (nI j), .ref (aw_r ad 0)]) := by
                    intro x295 ebx295
                    refine lv_aload_n hx hb d_La_law_646 rfl (lv_at hl 0 rfl) ?_
                    refine lv_iload hx hb d_La_law_647 (lv_at hl 4 rfl) ?_
                    refine lv_iconst (v := nI 3) hx hb d_La_law_649 (by decide +kernel) ?_
                    refine lv_iadd hx hb d_La_law_650 ?_
                    refine aw_ti (nI_add (6 * t) 3) ?_
                    refine va_sld hx hb hX hbl hbA hS (i := (nI ((6 * t) + 3))) (vp_in_nI (by omega) (by omega)) d_La_law_651 ?_
                    refine aw_ti (y := nI k) (by rw [nI_clamp (by omega)]; exact hfr.symm) ?_
                    refine lv_aload_n hx hb d_La_law_652 rfl (lv_at hl 0 rfl) ?_
                    refine lv_iload hx hb d_La_law_653 (lv_at hl 4 rfl) ?_
                    refine lv_iconst (v := nI 4) hx hb d_La_law_655 (by decide +kernel) ?_
                    refine lv_iadd hx hb d_La_law_656 ?_
                    refine aw_ti (nI_add (6 * t) 4) ?_
                    refine va_sld hx hb hX hbl hbA hS (i := (nI ((6 * t) + 4))) (vp_in_nI (by omega) (by omega)) d_La_law_657 ?_
                    refine aw_ti (y := nI 0) (by rw [nI_clamp (by omega)]; exact hm0.symm) ?_
                    refine lv_aload_n hx hb d_La_law_658 rfl (lv_at hl 3 rfl) ?_
                    refine va_calli (vx_runSW (As := [.ref (aw_r ad 0), .int (nI j), .int x295, .int (nI k), .int (nI 0), .ref (aw_o ad)]) (rest := []) ⟨hx, hb, hml, hown, hG⟩ (k_La_feed10bV l hst D g ad N0 zG zO zX zY zA zB zM zI zL zK zN zF zQ j x295 (nI k) hj (by omega) (by omega)) (aw_wW 6 hG gw_7_42 gw_7_40 gw_0_0 gw_7_41 rfl rfl hd_La_feed ⟨Nat.le_of_ble_eq_true rfl, Nat.le_of_ble_eq_true rfl⟩) (ag_qS hP hD hSh hU hS) rfl rfl hl.1 rfl (lv_room (Nat.le_of_ble_eq_true rfl)) d_La_law_659 ⟨by omega, by omega⟩) hS (fun _ _ h => h) (fun _ h => h) ?_
                    clear hP hD hSh hS
                    intro x296 u8 t8 H locs ht _ ex296 hB _ _ hS
                    obtain ⟨L, hP, hD, hSh⟩ := hB
                    rw [ht] at hP
                    clear ht
                    subst ex296
                    obtain ⟨zY297, ezY297⟩ : ∃ z : Nat → Nat → Int32, v_La_feed10bV_zY zY j = z := ⟨_, rfl⟩
                    rw [ezY297] at hSh
                    obtain ⟨zQ298, ezQ298⟩ : ∃ z : Int64, v_La_feed10bV_zQ zY j = z := ⟨_, rfl⟩
                    rw [ezQ298] at hSh
                    refine lv_istore hx hb d_La_law_662 hl (by decide) rfl (fun ls hl => ?_)
                    have hl : lv_has ls 8 [(5, .int (nI 0)), (0, .ref b), (1, .ref (aw_r ad 0)), (2, .ref (aw_m ad 0)), (3, .ref (aw_o ad)), (4, .int (nI (6 * t)))] := hl
                    refine lv_aload_n hx hb d_La_law_664 rfl (lv_at hl 3 rfl) ?_
                    refine lv_aload_n hx hb d_La_law_665 rfl (lv_at hl 1 rfl) ?_
                    refine lv_iload hx hb d_La_law_666 (lv_at hl 5 rfl) ?_
                    refine lv_iconst (v := nI 1) hx hb d_La_law_668 (by decide +kernel) ?_
                    refine lv_iadd hx hb d_La_law_669 ?_
                    refine aw_ti (nI_add (6 * t) 1) ?_
                    refine va_sld hx hb hX hbl hbA hS (i := (nI ((6 * t) + 1))) (vp_in_nI (by omega) (by omega)) d_La_law_670 ?_
                    refine aw_ti (y := nI j) (by rw [nI_clamp (by omega)]; exact hc0.symm) ?_
                    refine lv_aload_n hx hb d_La_law_671 rfl (lv_at hl 1 rfl) ?_
                    refine lv_iload hx hb d_La_law_672 (lv_at hl 5 rfl) ?_
                    refine lv_iconst (v := nI 2) hx hb d_La_law_674 (by decide +kernel) ?_
                    refine lv_iadd hx hb d_La_law_675 ?_
                    refine aw_ti (nI_add (6 * t) 2) ?_
                    refine va_sld hx hb hX hbl hbA hS (i := (nI ((6 * t) + 2))) (vp_in_nI (by omega) (by omega)) d_La_law_676 ?_
                    refine aw_ti (y := s2) (by rw [nI_clamp (by omega)]; exact hs2.symm) ?_
                    have hj299 : ∀ x300 : Int32, (if s2 = 0 then nI 0 else nI 1) = x300 → W p l e room_1 s m #[Value.ref b] below meth c H locs ((85 + t) + 1) ((1246 + 6 * t) + 6) (lw_Z below #[Value.ref b] s) (F0 m 685 ls [.int x300, .int (nI j), .ref (aw_m ad 0)]) := by
                      intro x300 ebx300
                      refine lv_aload_n hx hb d_La_law_685 rfl (lv_at hl 1 rfl) ?_
                      refine lv_iload hx hb d_La_law_686 (lv_at hl 5 rfl) ?_
                      refine lv_iconst (v := nI 3) hx hb d_La_law_688 (by decide +kernel) ?_
                      refine lv_iadd hx hb d_La_law_689 ?_
                      refine aw_ti (nI_add (6 * t) 3) ?_
                      refine va_sld hx hb hX hbl hbA hS (i := (nI ((6 * t) + 3))) (vp_in_nI (by omega) (by omega)) d_La_law_690 ?_
                      refine aw_ti (y := nI k) (by rw [nI_clamp (by omega)]; exact hfr.symm) ?_
                      refine lv_aload_n hx hb d_La_law_691 rfl (lv_at hl 1 rfl) ?_
                      refine lv_iload hx hb d_La_law_692 (lv_at hl 5 rfl) ?_
                      refine lv_iconst (v := nI 4) hx hb d_La_law_694 (by decide +kernel) ?_
                      refine lv_iadd hx hb d_La_law_695 ?_
                      refine aw_ti (nI_add (6 * t) 4) ?_
                      refine va_sld hx hb hX hbl hbA hS (i := (nI ((6 * t) + 4))) (vp_in_nI (by omega) (by omega)) d_La_law_696 ?_
                      refine aw_ti (y := nI 0) (by rw [nI_clamp (by omega)]; exact hm0.symm) ?_
                      obtain ⟨_, he301⟩ := zr_M0 hSh
                      refine va_calli (va_runV (As := [.int (nI j), .int x300, .int (nI k), .int (nI 0)]) (rest := []) ⟨hx, hb, hml, hown, hG⟩ (k_Mo_feed8V l D g ad N0 zG zO zX zY297 zA zB zM zI zL zK zN zF zQ298 j kc x300 k 0 hj (by omega) (by omega) (by omega) (by omega) hkc hci) (aw_wV 4 hG gw_12_26 gw_12_23 gw_0_10 gw_12_24 gw_12_25 rfl rfl hd_Mo_feed ⟨Nat.le_of_ble_eq_true rfl, Nat.le_of_ble_eq_true rfl⟩) (ag_qV (va_recv hK hP rfl he301) hP hD hSh hU hS) rfl rfl hl.1 rfl (lv_room (Nat.le_of_ble_eq_true rfl)) d_La_law_697 ⟨by omega, by omega⟩) hS (fun _ _ h => h) (fun _ h => h) ?_
                      clear hP hD hSh hS he301
                      intro x302 u8 t8 H locs ht _ ex302 hB _ _ hS
                      obtain ⟨L, hP, hD, hSh⟩ := hB
                      rw [ht] at hP
                      clear ht
                      obtain ⟨zI303, ezI303⟩ : ∃ z : Nat → Nat → Int32, v_Mo_feed8V_zI zM zI zL j kc x300 k 0 = z := ⟨_, rfl⟩
                      rw [ezI303] at hSh
                      obtain ⟨zL304, ezL304⟩ : ∃ z : Nat → Nat → Int64, v_Mo_feed8V_zL zM zI zL j kc x300 k 0 = z := ⟨_, rfl⟩
                      rw [ezL304] at hSh
                      have ex302 := ex302.symm
                      refine lv_istore hx hb d_La_law_700 hl (by decide) rfl (fun ls hl => ?_)
                      have hl : lv_has ls 8 [(6, .int x302), (5, .int (nI 0)), (0, .ref b), (1, .ref (aw_r ad 0)), (2, .ref (aw_m ad 0)), (3, .ref (aw_o ad)), (4, .int (nI (6 * t)))] := hl
                      refine lv_goto (tgt := 854) hx hb d_La_law_702 (by decide) ?_
                      refine lv_iinc (k := 6) (v := nI (6 * t + 6)) hx hb d_La_law_854 hl rfl (aw_inc (6 * t) 6 6 (by decide +kernel)) (by decide) rfl (fun ls hl => ?_)
                      have hl : lv_has ls 8 [(4, .int (nI (6 * t + 6))), (6, .int x302), (5, .int (nI 0)), (0, .ref b), (1, .ref (aw_r ad 0)), (2, .ref (aw_m ad 0)), (3, .ref (aw_o ad))] := hl
                      refine lv_goto (tgt := 23) hx hb d_La_law_857 (by decide) ?_
                      have hl := lv_sub hl (l' := [(0, .ref b), (1, .ref (aw_r ad 0)), (2, .ref (aw_m ad 0)), (3, .ref (aw_o ad)), (4, .int (nI (6 * t + 6)))]) [3, 4, 5, 6, 0] rfl
                      refine W.widen (k := 85 + (t + 1)) (n := 1246 + 6 * (t + 1)) (by omega) (by omega) ?_
                      have hR : az_R zG zO zX zY297 zA zB zM zI303 zL304 := by
                        subst ex302 ezL304 ezI303 ebx300 ezQ298 ezY297 ebx295
                        exact r_feed10b_8 hR hj hs hm hk hkc hci hco
                      exact ih (t + 1) zG zO zX zY297 zA zB zM zI303 zL304 (nI kc) (az_wn kc) (nI 0) zQ298 _ _ L ls (by omega) hP hD hSh hR hS (by first | exact hl | simpa [Nat.mul_add] using hl)
                    refine lv_if_eq (tgt := 684) hx hb d_La_law_677 (by decide) (fun h9 => ?_) (fun h9 => ?_)
                    · refine lv_iconst (v := nI 0) hx hb d_La_law_684 (by decide +kernel) ?_
                      exact hj299 _ (if_pos h9)
                    · refine lv_iconst (v := nI 1) hx hb d_La_law_680 (by decide +kernel) ?_
                      refine lv_goto (tgt := 685) hx hb d_La_law_681 (by decide) ?_
                      exact hj299 _ (if_neg h9)
                  refine lv_if_eq (tgt := 645) hx hb d_La_law_638 (by decide) (fun h9 => ?_) (fun h9 => ?_)
                  · refine lv_iconst (v := nI 0) hx hb d_La_law_645 (by decide +kernel) ?_
                    exact hj294 _ (if_pos h9)
                  · refine lv_iconst (v := nI 1) hx hb d_La_law_641 (by decide +kernel) ?_
                    refine lv_goto (tgt := 646) hx hb d_La_law_642 (by decide) ?_
                    exact hj294 _ (if_neg h9)
                · obtain ⟨kc, hkc, hci, hco⟩ := hR.2.1 j hj (by omega)
                  refine lv_aload_n hx hb d_La_law_625 rfl (lv_at hl 1 rfl) ?_
                  refine lv_aload_n hx hb d_La_law_626 rfl (lv_at hl 0 rfl) ?_
                  refine lv_iload hx hb d_La_law_627 (lv_at hl 4 rfl) ?_
                  refine lv_iconst (v := nI 1) hx hb d_La_law_629 (by decide +kernel) ?_
                  refine lv_iadd hx hb d_La_law_630 ?_
                  refine aw_ti (nI_add (6 * t) 1) ?_
                  refine va_sld hx hb hX hbl hbA hS (i := (nI ((6 * t) + 1))) (vp_in_nI (by omega) (by omega)) d_La_law_631 ?_
                  refine aw_ti (y := nI j) (by rw [nI_clamp (by omega)]; exact hc0.symm) ?_
                  refine lv_aload_n hx hb d_La_law_632 rfl (lv_at hl 0 rfl) ?_
                  refine lv_iload hx hb d_La_law_633 (lv_at hl 4 rfl) ?_
                  refine lv_iconst (v := nI 2) hx hb d_La_law_635 (by decide +kernel) ?_
                  refine lv_iadd hx hb d_La_law_636 ?_
                  refine aw_ti (nI_add (6 * t) 2) ?_
                  refine va_sld hx hb hX hbl hbA hS (i := (nI ((6 * t) + 2))) (vp_in_nI (by omega) (by omega)) d_La_law_637 ?_
                  refine aw_ti (y := s2) (by rw [nI_clamp (by omega)]; exact hs2.symm) ?_
                  have hj305 : ∀ x306 : Int32, (if s2 = 0 then nI 0 else nI 1) = x306 → W p l e room_1 s m #[Value.ref b] below meth c H locs (85 + t) (1246 + 6 * t) (lw_Z below #[Value.ref b] s) (F0 m 646 ls [.int x306, .int (nI j), .ref (aw_r ad 0)]) := by
                    intro x306 ebx306
                    refine lv_aload_n hx hb d_La_law_646 rfl (lv_at hl 0 rfl) ?_
                    refine lv_iload hx hb d_La_law_647 (lv_at hl 4 rfl) ?_
                    refine lv_iconst (v := nI 3) hx hb d_La_law_649 (by decide +kernel) ?_
                    refine lv_iadd hx hb d_La_law_650 ?_
                    refine aw_ti (nI_add (6 * t) 3) ?_
                    refine va_sld hx hb hX hbl hbA hS (i := (nI ((6 * t) + 3))) (vp_in_nI (by omega) (by omega)) d_La_law_651 ?_
                    refine aw_ti (y := nI k) (by rw [nI_clamp (by omega)]; exact hfr.symm) ?_
                    refine lv_aload_n hx hb d_La_law_652 rfl (lv_at hl 0 rfl) ?_
                    refine lv_iload hx hb d_La_law_653 (lv_at hl 4 rfl) ?_
                    refine lv_iconst (v := nI 4) hx hb d_La_law_655 (by decide +kernel) ?_
                    refine lv_iadd hx hb d_La_law_656 ?_
                    refine aw_ti (nI_add (6 * t) 4) ?_
                    refine va_sld hx hb hX hbl hbA hS (i := (nI ((6 * t) + 4))) (vp_in_nI (by omega) (by omega)) d_La_law_657 ?_
                    refine aw_ti (y := nI 0) (by rw [nI_clamp (by omega)]; exact hm0.symm) ?_
                    refine lv_aload_n hx hb d_La_law_658 rfl (lv_at hl 3 rfl) ?_
                    refine va_calli (vx_runSW (As := [.ref (aw_r ad 0), .int (nI j), .int x306, .int (nI k), .int (nI 0), .ref (aw_o ad)]) (rest := []) ⟨hx, hb, hml, hown, hG⟩ (k_La_feed10V l hst D g ad N0 zG zO zX zY zA zB zM zI zL zK zN zF zQ j x306 (nI k) hj (by omega) (by omega) (by omega)) (aw_wW 6 hG gw_7_42 gw_7_40 gw_0_0 gw_7_41 rfl rfl hd_La_feed ⟨Nat.le_of_ble_eq_true rfl, Nat.le_of_ble_eq_true rfl⟩) (ag_qS hP hD hSh hU hS) rfl rfl hl.1 rfl (lv_room (Nat.le_of_ble_eq_true rfl)) d_La_law_659 ⟨by omega, by omega⟩) hS (fun _ _ h => h) (fun _ h => h) ?_
                    clear hP hD hSh hS
                    intro x307 u8 t8 H locs ht _ ex307 hB _ _ hS
                    obtain ⟨L, hP, hD, hSh⟩ := hB
                    rw [ht] at hP
                    clear ht
                    subst ex307
                    obtain ⟨zY308, ezY308⟩ : ∃ z : Nat → Nat → Int32, v_La_feed10V_zY zY j = z := ⟨_, rfl⟩
                    rw [ezY308] at hSh
                    obtain ⟨zQ309, ezQ309⟩ : ∃ z : Int64, v_La_feed10V_zQ zY j = z := ⟨_, rfl⟩
                    rw [ezQ309] at hSh
                    refine lv_istore hx hb d_La_law_662 hl (by decide) rfl (fun ls hl => ?_)
                    have hl : lv_has ls 8 [(5, .int (nI 0)), (0, .ref b), (1, .ref (aw_r ad 0)), (2, .ref (aw_m ad 0)), (3, .ref (aw_o ad)), (4, .int (nI (6 * t)))] := hl
                    refine lv_aload_n hx hb d_La_law_664 rfl (lv_at hl 3 rfl) ?_
                    refine lv_aload_n hx hb d_La_law_665 rfl (lv_at hl 1 rfl) ?_
                    refine lv_iload hx hb d_La_law_666 (lv_at hl 5 rfl) ?_
                    refine lv_iconst (v := nI 1) hx hb d_La_law_668 (by decide +kernel) ?_
                    refine lv_iadd hx hb d_La_law_669 ?_
                    refine aw_ti (nI_add (6 * t) 1) ?_
                    refine va_sld hx hb hX hbl hbA hS (i := (nI ((6 * t) + 1))) (vp_in_nI (by omega) (by omega)) d_La_law_670 ?_
                    refine aw_ti (y := nI j) (by rw [nI_clamp (by omega)]; exact hc0.symm) ?_
                    refine lv_aload_n hx hb d_La_law_671 rfl (lv_at hl 1 rfl) ?_
                    refine lv_iload hx hb d_La_law_672 (lv_at hl 5 rfl) ?_
                    refine lv_iconst (v := nI 2) hx hb d_La_law_674 (by decide +kernel) ?_
                    refine lv_iadd hx hb d_La_law_675 ?_
                    refine aw_ti (nI_add (6 * t) 2) ?_
                    refine va_sld hx hb hX hbl hbA hS (i := (nI ((6 * t) + 2))) (vp_in_nI (by omega) (by omega)) d_La_law_676 ?_
                    refine aw_ti (y := s2) (by rw [nI_clamp (by omega)]; exact hs2.symm) ?_
                    have hj310 : ∀ x311 : Int32, (if s2 = 0 then nI 0 else nI 1) = x311 → W p l e room_1 s m #[Value.ref b] below meth c H locs ((85 + t) + 1) ((1246 + 6 * t) + 6) (lw_Z below #[Value.ref b] s) (F0 m 685 ls [.int x311, .int (nI j), .ref (aw_m ad 0)]) := by
                      intro x311 ebx311
                      refine lv_aload_n hx hb d_La_law_685 rfl (lv_at hl 1 rfl) ?_
                      refine lv_iload hx hb d_La_law_686 (lv_at hl 5 rfl) ?_
                      refine lv_iconst (v := nI 3) hx hb d_La_law_688 (by decide +kernel) ?_
                      refine lv_iadd hx hb d_La_law_689 ?_
                      refine aw_ti (nI_add (6 * t) 3) ?_
                      refine va_sld hx hb hX hbl hbA hS (i := (nI ((6 * t) + 3))) (vp_in_nI (by omega) (by omega)) d_La_law_690 ?_
                      refine aw_ti (y := nI k) (by rw [nI_clamp (by omega)]; exact hfr.symm) ?_
                      refine lv_aload_n hx hb d_La_law_691 rfl (lv_at hl 1 rfl) ?_
                      refine lv_iload hx hb d_La_law_692 (lv_at hl 5 rfl) ?_
                      refine lv_iconst (v := nI 4) hx hb d_La_law_694 (by decide +kernel) ?_
                      refine lv_iadd hx hb d_La_law_695 ?_
                      refine aw_ti (nI_add (6 * t) 4) ?_
                      refine va_sld hx hb hX hbl hbA hS (i := (nI ((6 * t) + 4))) (vp_in_nI (by omega) (by omega)) d_La_law_696 ?_
                      refine aw_ti (y := nI 0) (by rw [nI_clamp (by omega)]; exact hm0.symm) ?_
                      obtain ⟨_, he312⟩ := zr_M0 hSh
                      refine va_calli (va_runV (As := [.int (nI j), .int x311, .int (nI k), .int (nI 0)]) (rest := []) ⟨hx, hb, hml, hown, hG⟩ (k_Mo_feed1V l D g ad N0 zG zO zX zY308 zA zB zM zI zL zK zN zF zQ309 j kc x311 k 0 hj (by omega) (by omega) (by omega) (by omega) hkc hci) (aw_wV 4 hG gw_12_26 gw_12_23 gw_0_10 gw_12_24 gw_12_25 rfl rfl hd_Mo_feed ⟨Nat.le_of_ble_eq_true rfl, Nat.le_of_ble_eq_true rfl⟩) (ag_qV (va_recv hK hP rfl he312) hP hD hSh hU hS) rfl rfl hl.1 rfl (lv_room (Nat.le_of_ble_eq_true rfl)) d_La_law_697 ⟨by omega, by omega⟩) hS (fun _ _ h => h) (fun _ h => h) ?_
                      clear hP hD hSh hS he312
                      intro x313 u8 t8 H locs ht _ ex313 hB _ _ hS
                      obtain ⟨L, hP, hD, hSh⟩ := hB
                      rw [ht] at hP
                      clear ht
                      obtain ⟨zI314, ezI314⟩ : ∃ z : Nat → Nat → Int32, v_Mo_feed1V_zI zM zI zL j kc x311 k 0 = z := ⟨_, rfl⟩
                      rw [ezI314] at hSh
                      obtain ⟨zL315, ezL315⟩ : ∃ z : Nat → Nat → Int64, v_Mo_feed1V_zL zM zI zL j kc x311 k 0 = z := ⟨_, rfl⟩
                      rw [ezL315] at hSh
                      have ex313 := ex313.symm
                      refine lv_istore hx hb d_La_law_700 hl (by decide) rfl (fun ls hl => ?_)
                      have hl : lv_has ls 8 [(6, .int x313), (5, .int (nI 0)), (0, .ref b), (1, .ref (aw_r ad 0)), (2, .ref (aw_m ad 0)), (3, .ref (aw_o ad)), (4, .int (nI (6 * t)))] := hl
                      refine lv_goto (tgt := 854) hx hb d_La_law_702 (by decide) ?_
                      refine lv_iinc (k := 6) (v := nI (6 * t + 6)) hx hb d_La_law_854 hl rfl (aw_inc (6 * t) 6 6 (by decide +kernel)) (by decide) rfl (fun ls hl => ?_)
                      have hl : lv_has ls 8 [(4, .int (nI (6 * t + 6))), (6, .int x313), (5, .int (nI 0)), (0, .ref b), (1, .ref (aw_r ad 0)), (2, .ref (aw_m ad 0)), (3, .ref (aw_o ad))] := hl
                      refine lv_goto (tgt := 23) hx hb d_La_law_857 (by decide) ?_
                      have hl := lv_sub hl (l' := [(0, .ref b), (1, .ref (aw_r ad 0)), (2, .ref (aw_m ad 0)), (3, .ref (aw_o ad)), (4, .int (nI (6 * t + 6)))]) [3, 4, 5, 6, 0] rfl
                      refine W.widen (k := 85 + (t + 1)) (n := 1246 + 6 * (t + 1)) (by omega) (by omega) ?_
                      have hR : az_R zG zO zX zY308 zA zB zM zI314 zL315 := by
                        subst ex313 ezL315 ezI314 ebx311 ezQ309 ezY308 ebx306
                        exact r_feed10_1 hR hj hs (by omega) (by omega) hk hkc hci hco
                      exact ih (t + 1) zG zO zX zY308 zA zB zM zI314 zL315 (nI kc) (az_wn kc) (nI 0) zQ309 _ _ L ls (by omega) hP hD hSh hR hS (by first | exact hl | simpa [Nat.mul_add] using hl)
                    refine lv_if_eq (tgt := 684) hx hb d_La_law_677 (by decide) (fun h9 => ?_) (fun h9 => ?_)
                    · refine lv_iconst (v := nI 0) hx hb d_La_law_684 (by decide +kernel) ?_
                      exact hj310 _ (if_pos h9)
                    · refine lv_iconst (v := nI 1) hx hb d_La_law_680 (by decide +kernel) ?_
                      refine lv_goto (tgt := 685) hx hb d_La_law_681 (by decide) ?_
                      exact hj310 _ (if_neg h9)
                  refine lv_if_eq (tgt := 645) hx hb d_La_law_638 (by decide) (fun h9 => ?_) (fun h9 => ?_)
                  · refine lv_iconst (v := nI 0) hx hb d_La_law_645 (by decide +kernel) ?_
                    exact hj305 _ (if_pos h9)
                  · refine lv_iconst (v := nI 1) hx hb d_La_law_641 (by decide +kernel) ?_
                    refine lv_goto (tgt := 646) hx hb d_La_law_642 (by decide) ?_
                    exact hj305 _ (if_neg h9)
            · refine lv_aload_n hx hb d_La_law_625 rfl (lv_at hl 1 rfl) ?_
              refine lv_aload_n hx hb d_La_law_626 rfl (lv_at hl 0 rfl) ?_
              refine lv_iload hx hb d_La_law_627 (lv_at hl 4 rfl) ?_
              refine lv_iconst (v := nI 1) hx hb d_La_law_629 (by decide +kernel) ?_
              refine lv_iadd hx hb d_La_law_630 ?_
              refine aw_ti (nI_add (6 * t) 1) ?_
              refine va_sld hx hb hX hbl hbA hS (i := (nI ((6 * t) + 1))) (vp_in_nI (by omega) (by omega)) d_La_law_631 ?_
              refine aw_ti (y := nI j) (by rw [nI_clamp (by omega)]; exact hc0.symm) ?_
              refine lv_aload_n hx hb d_La_law_632 rfl (lv_at hl 0 rfl) ?_
              refine lv_iload hx hb d_La_law_633 (lv_at hl 4 rfl) ?_
              refine lv_iconst (v := nI 2) hx hb d_La_law_635 (by decide +kernel) ?_
              refine lv_iadd hx hb d_La_law_636 ?_
              refine aw_ti (nI_add (6 * t) 2) ?_
              refine va_sld hx hb hX hbl hbA hS (i := (nI ((6 * t) + 2))) (vp_in_nI (by omega) (by omega)) d_La_law_637 ?_
              refine aw_ti (y := s2) (by rw [nI_clamp (by omega)]; exact hs2.symm) ?_
              have hj316 : ∀ x317 : Int32, (if s2 = 0 then nI 0 else nI 1) = x317 → W p l e room_1 s m #[Value.ref b] below meth c H locs (85 + t) (1246 + 6 * t) (lw_Z below #[Value.ref b] s) (F0 m 646 ls [.int x317, .int (nI j), .ref (aw_r ad 0)]) := by
                intro x317 ebx317
                refine lv_aload_n hx hb d_La_law_646 rfl (lv_at hl 0 rfl) ?_
                refine lv_iload hx hb d_La_law_647 (lv_at hl 4 rfl) ?_
                refine lv_iconst (v := nI 3) hx hb d_La_law_649 (by decide +kernel) ?_
                refine lv_iadd hx hb d_La_law_650 ?_
                refine aw_ti (nI_add (6 * t) 3) ?_
                refine va_sld hx hb hX hbl hbA hS (i := (nI ((6 * t) + 3))) (vp_in_nI (by omega) (by omega)) d_La_law_651 ?_
                refine aw_ti (y := nI k) (by rw [nI_clamp (by omega)]; exact hfr.symm) ?_
                refine lv_aload_n hx hb d_La_law_652 rfl (lv_at hl 0 rfl) ?_
                refine lv_iload hx hb d_La_law_653 (lv_at hl 4 rfl) ?_
                refine lv_iconst (v := nI 4) hx hb d_La_law_655 (by decide +kernel) ?_
                refine lv_iadd hx hb d_La_law_656 ?_
                refine aw_ti (nI_add (6 * t) 4) ?_
                refine va_sld hx hb hX hbl hbA hS (i := (nI ((6 * t) + 4))) (vp_in_nI (by omega) (by omega)) d_La_law_657 ?_
                refine aw_ti (y := nI 0) (by rw [nI_clamp (by omega)]; exact hm0.symm) ?_
                refine lv_aload_n hx hb d_La_law_658 rfl (lv_at hl 3 rfl) ?_
                refine va_calli (vx_runSW (As := [.ref (aw_r ad 0), .int (nI j), .int x317, .int (nI k), .int (nI 0), .ref (aw_o ad)]) (rest := []) ⟨hx, hb, hml, hown, hG⟩ (k_La_feedXs0V l hst D g ad N0 zG zO zX zY zA zB zM zI zL zK zN zF zQ j x317 (nI k) hj (by omega)) (aw_wW 6 hG gw_7_42 gw_7_40 gw_0_0 gw_7_41 rfl rfl hd_La_feed ⟨Nat.le_of_ble_eq_true rfl, Nat.le_of_ble_eq_true rfl⟩) (ag_qS hP hD hSh hU hS) rfl rfl hl.1 rfl (lv_room (Nat.le_of_ble_eq_true rfl)) d_La_law_659 ⟨by omega, by omega⟩) hS (fun _ _ h => h) (fun _ h => h) ?_
                clear hP hD hSh hS
                intro x318 u8 t8 H locs ht _ ex318 hB _ _ hS
                obtain ⟨L, hP, hD, hSh⟩ := hB
                rw [ht] at hP
                clear ht
                subst ex318
                refine lv_istore hx hb d_La_law_662 hl (by decide) rfl (fun ls hl => ?_)
                have hl : lv_has ls 8 [(5, .int (nI 2)), (0, .ref b), (1, .ref (aw_r ad 0)), (2, .ref (aw_m ad 0)), (3, .ref (aw_o ad)), (4, .int (nI (6 * t)))] := hl
                refine lv_aload_n hx hb d_La_law_664 rfl (lv_at hl 3 rfl) ?_
                refine lv_aload_n hx hb d_La_law_665 rfl (lv_at hl 1 rfl) ?_
                refine lv_iload hx hb d_La_law_666 (lv_at hl 5 rfl) ?_
                refine lv_iconst (v := nI 1) hx hb d_La_law_668 (by decide +kernel) ?_
                refine lv_iadd hx hb d_La_law_669 ?_
                refine aw_ti (nI_add (6 * t) 1) ?_
                refine va_sld hx hb hX hbl hbA hS (i := (nI ((6 * t) + 1))) (vp_in_nI (by omega) (by omega)) d_La_law_670 ?_
                refine aw_ti (y := nI j) (by rw [nI_clamp (by omega)]; exact hc0.symm) ?_
                refine lv_aload_n hx hb d_La_law_671 rfl (lv_at hl 1 rfl) ?_
                refine lv_iload hx hb d_La_law_672 (lv_at hl 5 rfl) ?_
                refine lv_iconst (v := nI 2) hx hb d_La_law_674 (by decide +kernel) ?_
                refine lv_iadd hx hb d_La_law_675 ?_
                refine aw_ti (nI_add (6 * t) 2) ?_
                refine va_sld hx hb hX hbl hbA hS (i := (nI ((6 * t) + 2))) (vp_in_nI (by omega) (by omega)) d_La_law_676 ?_
                refine aw_ti (y := s2) (by rw [nI_clamp (by omega)]; exact hs2.symm) ?_
                have hj319 : ∀ x320 : Int32, (if s2 = 0 then nI 0 else nI 1) = x320 → W p l e room_1 s m #[Value.ref b] below meth c H locs ((85 + t) + 1) ((1246 + 6 * t) + 6) (lw_Z below #[Value.ref b] s) (F0 m 685 ls [.int x320, .int (nI j), .ref (aw_m ad 0)]) := by
                  intro x320 ebx320
                  refine lv_aload_n hx hb d_La_law_685 rfl (lv_at hl 1 rfl) ?_
                  refine lv_iload hx hb d_La_law_686 (lv_at hl 5 rfl) ?_
                  refine lv_iconst (v := nI 3) hx hb d_La_law_688 (by decide +kernel) ?_
                  refine lv_iadd hx hb d_La_law_689 ?_
                  refine aw_ti (nI_add (6 * t) 3) ?_
                  refine va_sld hx hb hX hbl hbA hS (i := (nI ((6 * t) + 3))) (vp_in_nI (by omega) (by omega)) d_La_law_690 ?_
                  refine aw_ti (y := nI k) (by rw [nI_clamp (by omega)]; exact hfr.symm) ?_
                  refine lv_aload_n hx hb d_La_law_691 rfl (lv_at hl 1 rfl) ?_
                  refine lv_iload hx hb d_La_law_692 (lv_at hl 5 rfl) ?_
                  refine lv_iconst (v := nI 4) hx hb d_La_law_694 (by decide +kernel) ?_
                  refine lv_iadd hx hb d_La_law_695 ?_
                  refine aw_ti (nI_add (6 * t) 4) ?_
                  refine va_sld hx hb hX hbl hbA hS (i := (nI ((6 * t) + 4))) (vp_in_nI (by omega) (by omega)) d_La_law_696 ?_
                  refine aw_ti (y := nI 0) (by rw [nI_clamp (by omega)]; exact hm0.symm) ?_
                  obtain ⟨_, he321⟩ := zr_M0 hSh
                  refine va_calli (va_runV (As := [.int (nI j), .int x320, .int (nI k), .int (nI 0)]) (rest := []) ⟨hx, hb, hml, hown, hG⟩ (k_Mo_feedXsV l D g ad N0 zG zO zX zY zA zB zM zI zL zK zN zF zQ j x320 k 0 hj (by omega) (by omega)) (aw_wV 4 hG gw_12_26 gw_12_23 gw_0_10 gw_12_24 gw_12_25 rfl rfl hd_Mo_feed ⟨Nat.le_of_ble_eq_true rfl, Nat.le_of_ble_eq_true rfl⟩) (ag_qV (va_recv hK hP rfl he321) hP hD hSh hU hS) rfl rfl hl.1 rfl (lv_room (Nat.le_of_ble_eq_true rfl)) d_La_law_697 ⟨by omega, by omega⟩) hS (fun _ _ h => h) (fun _ h => h) ?_
                  clear hP hD hSh hS he321
                  intro x322 u8 t8 H locs ht _ ex322 hB _ _ hS
                  obtain ⟨L, hP, hD, hSh⟩ := hB
                  rw [ht] at hP
                  clear ht
                  have ex322 := ex322.symm
                  refine lv_istore hx hb d_La_law_700 hl (by decide) rfl (fun ls hl => ?_)
                  have hl : lv_has ls 8 [(6, .int x322), (5, .int (nI 2)), (0, .ref b), (1, .ref (aw_r ad 0)), (2, .ref (aw_m ad 0)), (3, .ref (aw_o ad)), (4, .int (nI (6 * t)))] := hl
                  refine lv_goto (tgt := 854) hx hb d_La_law_702 (by decide) ?_
                  refine lv_iinc (k := 6) (v := nI (6 * t + 6)) hx hb d_La_law_854 hl rfl (aw_inc (6 * t) 6 6 (by decide +kernel)) (by decide) rfl (fun ls hl => ?_)
                  have hl : lv_has ls 8 [(4, .int (nI (6 * t + 6))), (6, .int x322), (5, .int (nI 2)), (0, .ref b), (1, .ref (aw_r ad 0)), (2, .ref (aw_m ad 0)), (3, .ref (aw_o ad))] := hl
                  refine lv_goto (tgt := 23) hx hb d_La_law_857 (by decide) ?_
                  have hl := lv_sub hl (l' := [(0, .ref b), (1, .ref (aw_r ad 0)), (2, .ref (aw_m ad 0)), (3, .ref (aw_o ad)), (4, .int (nI (6 * t + 6)))]) [3, 4, 5, 6, 0] rfl
                  refine W.widen (k := 85 + (t + 1)) (n := 1246 + 6 * (t + 1)) (by omega) (by omega) ?_
                  exact ih (t + 1) zG zO zX zY zA zB zM zI zL zK zN (nI 2) zQ _ _ L ls (by omega) hP hD hSh hR hS (by first | exact hl | simpa [Nat.mul_add] using hl)
                refine lv_if_eq (tgt := 684) hx hb d_La_law_677 (by decide) (fun h9 => ?_) (fun h9 => ?_)
                · refine lv_iconst (v := nI 0) hx hb d_La_law_684 (by decide +kernel) ?_
                  exact hj319 _ (if_pos h9)
                · refine lv_iconst (v := nI 1) hx hb d_La_law_680 (by decide +kernel) ?_
                  refine lv_goto (tgt := 685) hx hb d_La_law_681 (by decide) ?_
                  exact hj319 _ (if_neg h9)
              refine lv_if_eq (tgt := 645) hx hb d_La_law_638 (by decide) (fun h9 => ?_) (fun h9 => ?_)
              · refine lv_iconst (v := nI 0) hx hb d_La_law_645 (by decide +kernel) ?_
                exact hj316 _ (if_pos h9)
              · refine lv_iconst (v := nI 1) hx hb d_La_law_641 (by decide +kernel) ?_
                refine lv_goto (tgt := 646) hx hb d_La_law_642 (by decide) ?_
                exact hj316 _ (if_neg h9)
        · by_cases hs : (zG j).1 = 3
          · by_cases h5 : (zG j).2 = 5
            · refine lv_aload_n hx hb d_La_law_625 rfl (lv_at hl 1 rfl) ?_
              refine lv_aload_n hx hb d_La_law_626 rfl (lv_at hl 0 rfl) ?_
              refine lv_iload hx hb d_La_law_627 (lv_at hl 4 rfl) ?_
              refine lv_iconst (v := nI 1) hx hb d_La_law_629 (by decide +kernel) ?_
              refine lv_iadd hx hb d_La_law_630 ?_
              refine aw_ti (nI_add (6 * t) 1) ?_
              refine va_sld hx hb hX hbl hbA hS (i := (nI ((6 * t) + 1))) (vp_in_nI (by omega) (by omega)) d_La_law_631 ?_
              refine aw_ti (y := nI j) (by rw [nI_clamp (by omega)]; exact hc0.symm) ?_
              refine lv_aload_n hx hb d_La_law_632 rfl (lv_at hl 0 rfl) ?_
              refine lv_iload hx hb d_La_law_633 (lv_at hl 4 rfl) ?_
              refine lv_iconst (v := nI 2) hx hb d_La_law_635 (by decide +kernel) ?_
              refine lv_iadd hx hb d_La_law_636 ?_
              refine aw_ti (nI_add (6 * t) 2) ?_
              refine va_sld hx hb hX hbl hbA hS (i := (nI ((6 * t) + 2))) (vp_in_nI (by omega) (by omega)) d_La_law_637 ?_
              refine aw_ti (y := s2) (by rw [nI_clamp (by omega)]; exact hs2.symm) ?_
              have hj323 : ∀ x324 : Int32, (if s2 = 0 then nI 0 else nI 1) = x324 → W p l e room_1 s m #[Value.ref b] below meth c H locs (85 + t) (1246 + 6 * t) (lw_Z below #[Value.ref b] s) (F0 m 646 ls [.int x324, .int (nI j), .ref (aw_r ad 0)]) := by
                intro x324 ebx324
                refine lv_aload_n hx hb d_La_law_646 rfl (lv_at hl 0 rfl) ?_
                refine lv_iload hx hb d_La_law_647 (lv_at hl 4 rfl) ?_
                refine lv_iconst (v := nI 3) hx hb d_La_law_649 (by decide +kernel) ?_
                refine lv_iadd hx hb d_La_law_650 ?_
                refine aw_ti (nI_add (6 * t) 3) ?_
                refine va_sld hx hb hX hbl hbA hS (i := (nI ((6 * t) + 3))) (vp_in_nI (by omega) (by omega)) d_La_law_651 ?_
                refine aw_ti (y := nI k) (by rw [nI_clamp (by omega)]; exact hfr.symm) ?_
                refine lv_aload_n hx hb d_La_law_652 rfl (lv_at hl 0 rfl) ?_
                refine lv_iload hx hb d_La_law_653 (lv_at hl 4 rfl) ?_
                refine lv_iconst (v := nI 4) hx hb d_La_law_655 (by decide +kernel) ?_
                refine lv_iadd hx hb d_La_law_656 ?_
                refine aw_ti (nI_add (6 * t) 4) ?_
                refine va_sld hx hb hX hbl hbA hS (i := (nI ((6 * t) + 4))) (vp_in_nI (by omega) (by omega)) d_La_law_657 ?_
                refine aw_ti (y := nI mm) (by rw [nI_clamp (by omega)]; exact hm0.symm) ?_
                refine lv_aload_n hx hb d_La_law_658 rfl (lv_at hl 3 rfl) ?_
                refine va_calli (vx_runSW (As := [.ref (aw_r ad 0), .int (nI j), .int x324, .int (nI k), .int (nI mm), .ref (aw_o ad)]) (rest := []) ⟨hx, hb, hml, hown, hG⟩ (k_La_feedXs1V l hst D g ad N0 zG zO zX zY zA zB zM zI zL zK zN zF zQ j x324 k mm hj (by omega) (by omega) (by omega)) (aw_wW 6 hG gw_7_42 gw_7_40 gw_0_0 gw_7_41 rfl rfl hd_La_feed ⟨Nat.le_of_ble_eq_true rfl, Nat.le_of_ble_eq_true rfl⟩) (ag_qS hP hD hSh hU hS) rfl rfl hl.1 rfl (lv_room (Nat.le_of_ble_eq_true rfl)) d_La_law_659 ⟨by omega, by omega⟩) hS (fun _ _ h => h) (fun _ h => h) ?_
                clear hP hD hSh hS
                intro x325 u8 t8 H locs ht _ ex325 hB _ _ hS
                obtain ⟨L, hP, hD, hSh⟩ := hB
                rw [ht] at hP
                clear ht
                subst ex325
                refine lv_istore hx hb d_La_law_662 hl (by decide) rfl (fun ls hl => ?_)
                have hl : lv_has ls 8 [(5, .int (nI 2)), (0, .ref b), (1, .ref (aw_r ad 0)), (2, .ref (aw_m ad 0)), (3, .ref (aw_o ad)), (4, .int (nI (6 * t)))] := hl
                refine lv_aload_n hx hb d_La_law_664 rfl (lv_at hl 3 rfl) ?_
                refine lv_aload_n hx hb d_La_law_665 rfl (lv_at hl 1 rfl) ?_
                refine lv_iload hx hb d_La_law_666 (lv_at hl 5 rfl) ?_
                refine lv_iconst (v := nI 1) hx hb d_La_law_668 (by decide +kernel) ?_
                refine lv_iadd hx hb d_La_law_669 ?_
                refine aw_ti (nI_add (6 * t) 1) ?_
                refine va_sld hx hb hX hbl hbA hS (i := (nI ((6 * t) + 1))) (vp_in_nI (by omega) (by omega)) d_La_law_670 ?_
                refine aw_ti (y := nI j) (by rw [nI_clamp (by omega)]; exact hc0.symm) ?_
                refine lv_aload_n hx hb d_La_law_671 rfl (lv_at hl 1 rfl) ?_
                refine lv_iload hx hb d_La_law_672 (lv_at hl 5 rfl) ?_
                refine lv_iconst (v := nI 2) hx hb d_La_law_674 (by decide +kernel) ?_
                refine lv_iadd hx hb d_La_law_675 ?_
                refine aw_ti (nI_add (6 * t) 2) ?_
                refine va_sld hx hb hX hbl hbA hS (i := (nI ((6 * t) + 2))) (vp_in_nI (by omega) (by omega)) d_La_law_676 ?_
                refine aw_ti (y := s2) (by rw [nI_clamp (by omega)]; exact hs2.symm) ?_
                have hj326 : ∀ x327 : Int32, (if s2 = 0 then nI 0 else nI 1) = x327 → W p l e room_1 s m #[Value.ref b] below meth c H locs ((85 + t) + 1) ((1246 + 6 * t) + 6) (lw_Z below #[Value.ref b] s) (F0 m 685 ls [.int x327, .int (nI j), .ref (aw_m ad 0)]) := by
                  intro x327 ebx327
                  refine lv_aload_n hx hb d_La_law_685 rfl (lv_at hl 1 rfl) ?_
                  refine lv_iload hx hb d_La_law_686 (lv_at hl 5 rfl) ?_
                  refine lv_iconst (v := nI 3) hx hb d_La_law_688 (by decide +kernel) ?_
                  refine lv_iadd hx hb d_La_law_689 ?_
                  refine aw_ti (nI_add (6 * t) 3) ?_
                  refine va_sld hx hb hX hbl hbA hS (i := (nI ((6 * t) + 3))) (vp_in_nI (by omega) (by omega)) d_La_law_690 ?_
                  refine aw_ti (y := nI k) (by rw [nI_clamp (by omega)]; exact hfr.symm) ?_
                  refine lv_aload_n hx hb d_La_law_691 rfl (lv_at hl 1 rfl) ?_
                  refine lv_iload hx hb d_La_law_692 (lv_at hl 5 rfl) ?_
                  refine lv_iconst (v := nI 4) hx hb d_La_law_694 (by decide +kernel) ?_
                  refine lv_iadd hx hb d_La_law_695 ?_
                  refine aw_ti (nI_add (6 * t) 4) ?_
                  refine va_sld hx hb hX hbl hbA hS (i := (nI ((6 * t) + 4))) (vp_in_nI (by omega) (by omega)) d_La_law_696 ?_
                  refine aw_ti (y := nI mm) (by rw [nI_clamp (by omega)]; exact hm0.symm) ?_
                  obtain ⟨_, he328⟩ := zr_M0 hSh
                  refine va_calli (va_runV (As := [.int (nI j), .int x327, .int (nI k), .int (nI mm)]) (rest := []) ⟨hx, hb, hml, hown, hG⟩ (k_Mo_feedXsV l D g ad N0 zG zO zX zY zA zB zM zI zL zK zN zF zQ j x327 k mm hj (by omega) (by omega)) (aw_wV 4 hG gw_12_26 gw_12_23 gw_0_10 gw_12_24 gw_12_25 rfl rfl hd_Mo_feed ⟨Nat.le_of_ble_eq_true rfl, Nat.le_of_ble_eq_true rfl⟩) (ag_qV (va_recv hK hP rfl he328) hP hD hSh hU hS) rfl rfl hl.1 rfl (lv_room (Nat.le_of_ble_eq_true rfl)) d_La_law_697 ⟨by omega, by omega⟩) hS (fun _ _ h => h) (fun _ h => h) ?_
                  clear hP hD hSh hS he328
                  intro x329 u8 t8 H locs ht _ ex329 hB _ _ hS
                  obtain ⟨L, hP, hD, hSh⟩ := hB
                  rw [ht] at hP
                  clear ht
                  have ex329 := ex329.symm
                  refine lv_istore hx hb d_La_law_700 hl (by decide) rfl (fun ls hl => ?_)
                  have hl : lv_has ls 8 [(6, .int x329), (5, .int (nI 2)), (0, .ref b), (1, .ref (aw_r ad 0)), (2, .ref (aw_m ad 0)), (3, .ref (aw_o ad)), (4, .int (nI (6 * t)))] := hl
                  refine lv_goto (tgt := 854) hx hb d_La_law_702 (by decide) ?_
                  refine lv_iinc (k := 6) (v := nI (6 * t + 6)) hx hb d_La_law_854 hl rfl (aw_inc (6 * t) 6 6 (by decide +kernel)) (by decide) rfl (fun ls hl => ?_)
                  have hl : lv_has ls 8 [(4, .int (nI (6 * t + 6))), (6, .int x329), (5, .int (nI 2)), (0, .ref b), (1, .ref (aw_r ad 0)), (2, .ref (aw_m ad 0)), (3, .ref (aw_o ad))] := hl
                  refine lv_goto (tgt := 23) hx hb d_La_law_857 (by decide) ?_
                  have hl := lv_sub hl (l' := [(0, .ref b), (1, .ref (aw_r ad 0)), (2, .ref (aw_m ad 0)), (3, .ref (aw_o ad)), (4, .int (nI (6 * t + 6)))]) [3, 4, 5, 6, 0] rfl
                  refine W.widen (k := 85 + (t + 1)) (n := 1246 + 6 * (t + 1)) (by omega) (by omega) ?_
                  exact ih (t + 1) zG zO zX zY zA zB zM zI zL zK zN (nI 2) zQ _ _ L ls (by omega) hP hD hSh hR hS (by first | exact hl | simpa [Nat.mul_add] using hl)
                refine lv_if_eq (tgt := 684) hx hb d_La_law_677 (by decide) (fun h9 => ?_) (fun h9 => ?_)
                · refine lv_iconst (v := nI 0) hx hb d_La_law_684 (by decide +kernel) ?_
                  exact hj326 _ (if_pos h9)
                · refine lv_iconst (v := nI 1) hx hb d_La_law_680 (by decide +kernel) ?_
                  refine lv_goto (tgt := 685) hx hb d_La_law_681 (by decide) ?_
                  exact hj326 _ (if_neg h9)
              refine lv_if_eq (tgt := 645) hx hb d_La_law_638 (by decide) (fun h9 => ?_) (fun h9 => ?_)
              · refine lv_iconst (v := nI 0) hx hb d_La_law_645 (by decide +kernel) ?_
                exact hj323 _ (if_pos h9)
              · refine lv_iconst (v := nI 1) hx hb d_La_law_641 (by decide +kernel) ?_
                refine lv_goto (tgt := 646) hx hb d_La_law_642 (by decide) ?_
                exact hj323 _ (if_neg h9)
            · by_cases hm : (zG j).2 ≤ 1
              · by_cases h8 : mm % 8 = 0
                · obtain ⟨q, rfl⟩ : ∃ q, mm = 8 * q := ⟨mm / 8, by omega⟩
                  obtain ⟨kc, hkc, hci, hco⟩ := hR.2.1 j hj (by omega)
                  refine lv_aload_n hx hb d_La_law_625 rfl (lv_at hl 1 rfl) ?_
                  refine lv_aload_n hx hb d_La_law_626 rfl (lv_at hl 0 rfl) ?_
                  refine lv_iload hx hb d_La_law_627 (lv_at hl 4 rfl) ?_
                  refine lv_iconst (v := nI 1) hx hb d_La_law_629 (by decide +kernel) ?_
                  refine lv_iadd hx hb d_La_law_630 ?_
                  refine aw_ti (nI_add (6 * t) 1) ?_
                  refine va_sld hx hb hX hbl hbA hS (i := (nI ((6 * t) + 1))) (vp_in_nI (by omega) (by omega)) d_La_law_631 ?_
                  refine aw_ti (y := nI j) (by rw [nI_clamp (by omega)]; exact hc0.symm) ?_
                  refine lv_aload_n hx hb d_La_law_632 rfl (lv_at hl 0 rfl) ?_
                  refine lv_iload hx hb d_La_law_633 (lv_at hl 4 rfl) ?_
                  refine lv_iconst (v := nI 2) hx hb d_La_law_635 (by decide +kernel) ?_
                  refine lv_iadd hx hb d_La_law_636 ?_
                  refine aw_ti (nI_add (6 * t) 2) ?_
                  refine va_sld hx hb hX hbl hbA hS (i := (nI ((6 * t) + 2))) (vp_in_nI (by omega) (by omega)) d_La_law_637 ?_
                  refine aw_ti (y := s2) (by rw [nI_clamp (by omega)]; exact hs2.symm) ?_
                  have hj330 : ∀ x331 : Int32, (if s2 = 0 then nI 0 else nI 1) = x331 → W p l e room_1 s m #[Value.ref b] below meth c H locs (85 + t) (1246 + 6 * t) (lw_Z below #[Value.ref b] s) (F0 m 646 ls [.int x331, .int (nI j), .ref (aw_r ad 0)]) := by
                    intro x331 ebx331
                    refine lv_aload_n hx hb d_La_law_646 rfl (lv_at hl 0 rfl) ?_
                    refine lv_iload hx hb d_La_law_647 (lv_at hl 4 rfl) ?_
                    refine lv_iconst (v := nI 3) hx hb d_La_law_649 (by decide +kernel) ?_
                    refine lv_iadd hx hb d_La_law_650 ?_
                    refine aw_ti (nI_add (6 * t) 3) ?_
                    refine va_sld hx hb hX hbl hbA hS (i := (nI ((6 * t) + 3))) (vp_in_nI (by omega) (by omega)) d_La_law_651 ?_
                    refine aw_ti (y := nI k) (by rw [nI_clamp (by omega)]; exact hfr.symm) ?_
                    refine lv_aload_n hx hb d_La_law_652 rfl (lv_at hl 0 rfl) ?_
                    refine lv_iload hx hb d_La_law_653 (lv_at hl 4 rfl) ?_
                    refine lv_iconst (v := nI 4) hx hb d_La_law_655 (by decide +kernel) ?_
                    refine lv_iadd hx hb d_La_law_656 ?_
                    refine aw_ti (nI_add (6 * t) 4) ?_
                    refine va_sld hx hb hX hbl hbA hS (i := (nI ((6 * t) + 4))) (vp_in_nI (by omega) (by omega)) d_La_law_657 ?_
                    refine aw_ti (y := nI (8 * q)) (by rw [nI_clamp (by omega)]; exact hm0.symm) ?_
                    refine lv_aload_n hx hb d_La_law_658 rfl (lv_at hl 3 rfl) ?_
                    refine va_calli (vx_runSW (As := [.ref (aw_r ad 0), .int (nI j), .int x331, .int (nI k), .int (nI (8 * q)), .ref (aw_o ad)]) (rest := []) ⟨hx, hb, hml, hown, hG⟩ (k_La_feed18V l hst D g ad N0 zG zO zX zY zA zB zM zI zL zK zN zF zQ j x331 k q hj (by omega) (by omega) (by omega) (by omega)) (aw_wW 6 hG gw_7_42 gw_7_40 gw_0_0 gw_7_41 rfl rfl hd_La_feed ⟨Nat.le_of_ble_eq_true rfl, Nat.le_of_ble_eq_true rfl⟩) (ag_qS hP hD hSh hU hS) rfl rfl hl.1 rfl (lv_room (Nat.le_of_ble_eq_true rfl)) d_La_law_659 ⟨by omega, by omega⟩) hS (fun _ _ h => h) (fun _ h => h) ?_
                    clear hP hD hSh hS
                    intro x332 u8 t8 H locs ht _ ex332 hB _ _ hS
                    obtain ⟨L, hP, hD, hSh⟩ := hB
                    rw [ht] at hP
                    clear ht
                    subst ex332
                    obtain ⟨zX333, ezX333⟩ : ∃ z : Nat → Nat → Int64, v_La_feed18V_zX zG zO zX zY zA zB j x331 k q = z := ⟨_, rfl⟩
                    rw [ezX333] at hSh
                    obtain ⟨zY334, ezY334⟩ : ∃ z : Nat → Nat → Int32, v_La_feed18V_zY zG zO zX zY zA zB j x331 k q = z := ⟨_, rfl⟩
                    rw [ezY334] at hSh
                    obtain ⟨zB335, ezB335⟩ : ∃ z : Nat → Int32, v_La_feed18V_zB zG zO zX zY zA zB j x331 k q = z := ⟨_, rfl⟩
                    rw [ezB335] at hSh
                    obtain ⟨zQ336, ezQ336⟩ : ∃ z : Int64, v_La_feed18V_zQ zG zO zX zY zA zB j x331 k q = z := ⟨_, rfl⟩
                    rw [ezQ336] at hSh
                    refine lv_istore hx hb d_La_law_662 hl (by decide) rfl (fun ls hl => ?_)
                    have hl : lv_has ls 8 [(5, .int (nI 0)), (0, .ref b), (1, .ref (aw_r ad 0)), (2, .ref (aw_m ad 0)), (3, .ref (aw_o ad)), (4, .int (nI (6 * t)))] := hl
                    refine lv_aload_n hx hb d_La_law_664 rfl (lv_at hl 3 rfl) ?_
                    refine lv_aload_n hx hb d_La_law_665 rfl (lv_at hl 1 rfl) ?_
                    refine lv_iload hx hb d_La_law_666 (lv_at hl 5 rfl) ?_
                    refine lv_iconst (v := nI 1) hx hb d_La_law_668 (by decide +kernel) ?_
                    refine lv_iadd hx hb d_La_law_669 ?_
                    refine aw_ti (nI_add (6 * t) 1) ?_
                    refine va_sld hx hb hX hbl hbA hS (i := (nI ((6 * t) + 1))) (vp_in_nI (by omega) (by omega)) d_La_law_670 ?_
                    refine aw_ti (y := nI j) (by rw [nI_clamp (by omega)]; exact hc0.symm) ?_
                    refine lv_aload_n hx hb d_La_law_671 rfl (lv_at hl 1 rfl) ?_
                    refine lv_iload hx hb d_La_law_672 (lv_at hl 5 rfl) ?_
                    refine lv_iconst (v := nI 2) hx hb d_La_law_674 (by decide +kernel) ?_
                    refine lv_iadd hx hb d_La_law_675 ?_
                    refine aw_ti (nI_add (6 * t) 2) ?_
                    refine va_sld hx hb hX hbl hbA hS (i := (nI ((6 * t) + 2))) (vp_in_nI (by omega) (by omega)) d_La_law_676 ?_
                    refine aw_ti (y := s2) (by rw [nI_clamp (by omega)]; exact hs2.symm) ?_
                    have hj337 : ∀ x338 : Int32, (if s2 = 0 then nI 0 else nI 1) = x338 → W p l e room_1 s m #[Value.ref b] below meth c H locs ((85 + t) + 1) ((1246 + 6 * t) + 6) (lw_Z below #[Value.ref b] s) (F0 m 685 ls [.int x338, .int (nI j), .ref (aw_m ad 0)]) := by
                      intro x338 ebx338
                      refine lv_aload_n hx hb d_La_law_685 rfl (lv_at hl 1 rfl) ?_
                      refine lv_iload hx hb d_La_law_686 (lv_at hl 5 rfl) ?_
                      refine lv_iconst (v := nI 3) hx hb d_La_law_688 (by decide +kernel) ?_
                      refine lv_iadd hx hb d_La_law_689 ?_
                      refine aw_ti (nI_add (6 * t) 3) ?_
                      refine va_sld hx hb hX hbl hbA hS (i := (nI ((6 * t) + 3))) (vp_in_nI (by omega) (by omega)) d_La_law_690 ?_
                      refine aw_ti (y := nI k) (by rw [nI_clamp (by omega)]; exact hfr.symm) ?_
                      refine lv_aload_n hx hb d_La_law_691 rfl (lv_at hl 1 rfl) ?_
                      refine lv_iload hx hb d_La_law_692 (lv_at hl 5 rfl) ?_
                      refine lv_iconst (v := nI 4) hx hb d_La_law_694 (by decide +kernel) ?_
                      refine lv_iadd hx hb d_La_law_695 ?_
                      refine aw_ti (nI_add (6 * t) 4) ?_
                      refine va_sld hx hb hX hbl hbA hS (i := (nI ((6 * t) + 4))) (vp_in_nI (by omega) (by omega)) d_La_law_696 ?_
                      refine aw_ti (y := nI (8 * q)) (by rw [nI_clamp (by omega)]; exact hm0.symm) ?_
                      obtain ⟨_, he339⟩ := zr_M0 hSh
                      refine va_calli (va_runV (As := [.int (nI j), .int x338, .int (nI k), .int (nI (8 * q))]) (rest := []) ⟨hx, hb, hml, hown, hG⟩ (k_Mo_feed8V l D g ad N0 zG zO zX333 zY334 zA zB335 zM zI zL zK zN zF zQ336 j kc x338 k (8 * q) hj (by omega) (by omega) (by omega) (by omega) hkc hci) (aw_wV 4 hG gw_12_26 gw_12_23 gw_0_10 gw_12_24 gw_12_25 rfl rfl hd_Mo_feed ⟨Nat.le_of_ble_eq_true rfl, Nat.le_of_ble_eq_true rfl⟩) (ag_qV (va_recv hK hP rfl he339) hP hD hSh hU hS) rfl rfl hl.1 rfl (lv_room (Nat.le_of_ble_eq_true rfl)) d_La_law_697 ⟨by omega, by omega⟩) hS (fun _ _ h => h) (fun _ h => h) ?_
                      clear hP hD hSh hS he339
                      intro x340 u8 t8 H locs ht _ ex340 hB _ _ hS
                      obtain ⟨L, hP, hD, hSh⟩ := hB
                      rw [ht] at hP
                      clear ht
                      obtain ⟨zI341, ezI341⟩ : ∃ z : Nat → Nat → Int32, v_Mo_feed8V_zI zM zI zL j kc x338 k (8 * q) = z := ⟨_, rfl⟩
                      rw [ezI341] at hSh
                      obtain ⟨zL342, ezL342⟩ : ∃ z : Nat → Nat → Int64, v_Mo_feed8V_zL zM zI zL j kc x338 k (8 * q) = z := ⟨_, rfl⟩
                      rw [ezL342] at hSh
                      have ex340 := ex340.symm
                      refine lv_istore hx hb d_La_law_700 hl (by decide) rfl (fun ls hl => ?_)
                      have hl : lv_has ls 8 [(6, .int x340), (5, .int (nI 0)), (0, .ref b), (1, .ref (aw_r ad 0)), (2, .ref (aw_m ad 0)), (3, .ref (aw_o ad)), (4, .int (nI (6 * t)))] := hl
                      refine lv_goto (tgt := 854) hx hb d_La_law_702 (by decide) ?_
                      refine lv_iinc (k := 6) (v := nI (6 * t + 6)) hx hb d_La_law_854 hl rfl (aw_inc (6 * t) 6 6 (by decide +kernel)) (by decide) rfl (fun ls hl => ?_)
                      have hl : lv_has ls 8 [(4, .int (nI (6 * t + 6))), (6, .int x340), (5, .int (nI 0)), (0, .ref b), (1, .ref (aw_r ad 0)), (2, .ref (aw_m ad 0)), (3, .ref (aw_o ad))] := hl
                      refine lv_goto (tgt := 23) hx hb d_La_law_857 (by decide) ?_
                      have hl := lv_sub hl (l' := [(0, .ref b), (1, .ref (aw_r ad 0)), (2, .ref (aw_m ad 0)), (3, .ref (aw_o ad)), (4, .int (nI (6 * t + 6)))]) [3, 4, 5, 6, 0] rfl
                      refine W.widen (k := 85 + (t + 1)) (n := 1246 + 6 * (t + 1)) (by omega) (by omega) ?_
                      have hR : az_R zG zO zX333 zY334 zA zB335 zM zI341 zL342 := by
                        subst ex340 ezL342 ezI341 ebx338 ezQ336 ezB335 ezY334 ezX333 ebx331
                        exact r_feed18_8 hR hj hs hm h0 hk hkc hci hco
                      exact ih (t + 1) zG zO zX333 zY334 zA zB335 zM zI341 zL342 (nI kc) (az_wn kc) (nI 0) zQ336 _ _ L ls (by omega) hP hD hSh hR hS (by first | exact hl | simpa [Nat.mul_add] using hl)
                    refine lv_if_eq (tgt := 684) hx hb d_La_law_677 (by decide) (fun h9 => ?_) (fun h9 => ?_)
                    · refine lv_iconst (v := nI 0) hx hb d_La_law_684 (by decide +kernel) ?_
                      exact hj337 _ (if_pos h9)
                    · refine lv_iconst (v := nI 1) hx hb d_La_law_680 (by decide +kernel) ?_
                      refine lv_goto (tgt := 685) hx hb d_La_law_681 (by decide) ?_
                      exact hj337 _ (if_neg h9)
                  refine lv_if_eq (tgt := 645) hx hb d_La_law_638 (by decide) (fun h9 => ?_) (fun h9 => ?_)
                  · refine lv_iconst (v := nI 0) hx hb d_La_law_645 (by decide +kernel) ?_
                    exact hj330 _ (if_pos h9)
                  · refine lv_iconst (v := nI 1) hx hb d_La_law_641 (by decide +kernel) ?_
                    refine lv_goto (tgt := 646) hx hb d_La_law_642 (by decide) ?_
                    exact hj330 _ (if_neg h9)
                · refine lv_aload_n hx hb d_La_law_625 rfl (lv_at hl 1 rfl) ?_
                  refine lv_aload_n hx hb d_La_law_626 rfl (lv_at hl 0 rfl) ?_
                  refine lv_iload hx hb d_La_law_627 (lv_at hl 4 rfl) ?_
                  refine lv_iconst (v := nI 1) hx hb d_La_law_629 (by decide +kernel) ?_
                  refine lv_iadd hx hb d_La_law_630 ?_
                  refine aw_ti (nI_add (6 * t) 1) ?_
                  refine va_sld hx hb hX hbl hbA hS (i := (nI ((6 * t) + 1))) (vp_in_nI (by omega) (by omega)) d_La_law_631 ?_
                  refine aw_ti (y := nI j) (by rw [nI_clamp (by omega)]; exact hc0.symm) ?_
                  refine lv_aload_n hx hb d_La_law_632 rfl (lv_at hl 0 rfl) ?_
                  refine lv_iload hx hb d_La_law_633 (lv_at hl 4 rfl) ?_
                  refine lv_iconst (v := nI 2) hx hb d_La_law_635 (by decide +kernel) ?_
                  refine lv_iadd hx hb d_La_law_636 ?_
                  refine aw_ti (nI_add (6 * t) 2) ?_
                  refine va_sld hx hb hX hbl hbA hS (i := (nI ((6 * t) + 2))) (vp_in_nI (by omega) (by omega)) d_La_law_637 ?_
                  refine aw_ti (y := s2) (by rw [nI_clamp (by omega)]; exact hs2.symm) ?_
                  have hj343 : ∀ x344 : Int32, (if s2 = 0 then nI 0 else nI 1) = x344 → W p l e room_1 s m #[Value.ref b] below meth c H locs (85 + t) (1246 + 6 * t) (lw_Z below #[Value.ref b] s) (F0 m 646 ls [.int x344, .int (nI j), .ref (aw_r ad 0)]) := by
                    intro x344 ebx344
                    refine lv_aload_n hx hb d_La_law_646 rfl (lv_at hl 0 rfl) ?_
                    refine lv_iload hx hb d_La_law_647 (lv_at hl 4 rfl) ?_
                    refine lv_iconst (v := nI 3) hx hb d_La_law_649 (by decide +kernel) ?_
                    refine lv_iadd hx hb d_La_law_650 ?_
                    refine aw_ti (nI_add (6 * t) 3) ?_
                    refine va_sld hx hb hX hbl hbA hS (i := (nI ((6 * t) + 3))) (vp_in_nI (by omega) (by omega)) d_La_law_651 ?_
                    refine aw_ti (y := nI k) (by rw [nI_clamp (by omega)]; exact hfr.symm) ?_
                    refine lv_aload_n hx hb d_La_law_652 rfl (lv_at hl 0 rfl) ?_
                    refine lv_iload hx hb d_La_law_653 (lv_at hl 4 rfl) ?_
                    refine lv_iconst (v := nI 4) hx hb d_La_law_655 (by decide +kernel) ?_
                    refine lv_iadd hx hb d_La_law_656 ?_
                    refine aw_ti (nI_add (6 * t) 4) ?_
                    refine va_sld hx hb hX hbl hbA hS (i := (nI ((6 * t) + 4))) (vp_in_nI (by omega) (by omega)) d_La_law_657 ?_
                    refine aw_ti (y := nI mm) (by rw [nI_clamp (by omega)]; exact hm0.symm) ?_
                    refine lv_aload_n hx hb d_La_law_658 rfl (lv_at hl 3 rfl) ?_
                    refine va_calli (vx_runSW (As := [.ref (aw_r ad 0), .int (nI j), .int x344, .int (nI k), .int (nI mm), .ref (aw_o ad)]) (rest := []) ⟨hx, hb, hml, hown, hG⟩ (k_La_feedXaV l hst D g ad N0 zG zO zX zY zA zB zM zI zL zK zN zF zQ j x344 k mm hj (by omega) (by omega) (by omega) (by omega) (by omega)) (aw_wW 6 hG gw_7_42 gw_7_40 gw_0_0 gw_7_41 rfl rfl hd_La_feed ⟨Nat.le_of_ble_eq_true rfl, Nat.le_of_ble_eq_true rfl⟩) (ag_qS hP hD hSh hU hS) rfl rfl hl.1 rfl (lv_room (Nat.le_of_ble_eq_true rfl)) d_La_law_659 ⟨by omega, by omega⟩) hS (fun _ _ h => h) (fun _ h => h) ?_
                    clear hP hD hSh hS
                    intro x345 u8 t8 H locs ht _ ex345 hB _ _ hS
                    obtain ⟨L, hP, hD, hSh⟩ := hB
                    rw [ht] at hP
                    clear ht
                    subst ex345
                    refine lv_istore hx hb d_La_law_662 hl (by decide) rfl (fun ls hl => ?_)
                    have hl : lv_has ls 8 [(5, .int (nI 3)), (0, .ref b), (1, .ref (aw_r ad 0)), (2, .ref (aw_m ad 0)), (3, .ref (aw_o ad)), (4, .int (nI (6 * t)))] := hl
                    refine lv_aload_n hx hb d_La_law_664 rfl (lv_at hl 3 rfl) ?_
                    refine lv_aload_n hx hb d_La_law_665 rfl (lv_at hl 1 rfl) ?_
                    refine lv_iload hx hb d_La_law_666 (lv_at hl 5 rfl) ?_
                    refine lv_iconst (v := nI 1) hx hb d_La_law_668 (by decide +kernel) ?_
                    refine lv_iadd hx hb d_La_law_669 ?_
                    refine aw_ti (nI_add (6 * t) 1) ?_
                    refine va_sld hx hb hX hbl hbA hS (i := (nI ((6 * t) + 1))) (vp_in_nI (by omega) (by omega)) d_La_law_670 ?_
                    refine aw_ti (y := nI j) (by rw [nI_clamp (by omega)]; exact hc0.symm) ?_
                    refine lv_aload_n hx hb d_La_law_671 rfl (lv_at hl 1 rfl) ?_
                    refine lv_iload hx hb d_La_law_672 (lv_at hl 5 rfl) ?_
                    refine lv_iconst (v := nI 2) hx hb d_La_law_674 (by decide +kernel) ?_
                    refine lv_iadd hx hb d_La_law_675 ?_
                    refine aw_ti (nI_add (6 * t) 2) ?_
                    refine va_sld hx hb hX hbl hbA hS (i := (nI ((6 * t) + 2))) (vp_in_nI (by omega) (by omega)) d_La_law_676 ?_
                    refine aw_ti (y := s2) (by rw [nI_clamp (by omega)]; exact hs2.symm) ?_
                    have hj346 : ∀ x347 : Int32, (if s2 = 0 then nI 0 else nI 1) = x347 → W p l e room_1 s m #[Value.ref b] below meth c H locs ((85 + t) + 1) ((1246 + 6 * t) + 6) (lw_Z below #[Value.ref b] s) (F0 m 685 ls [.int x347, .int (nI j), .ref (aw_m ad 0)]) := by
                      intro x347 ebx347
                      refine lv_aload_n hx hb d_La_law_685 rfl (lv_at hl 1 rfl) ?_
                      refine lv_iload hx hb d_La_law_686 (lv_at hl 5 rfl) ?_
                      refine lv_iconst (v := nI 3) hx hb d_La_law_688 (by decide +kernel) ?_
                      refine lv_iadd hx hb d_La_law_689 ?_
                      refine aw_ti (nI_add (6 * t) 3) ?_
                      refine va_sld hx hb hX hbl hbA hS (i := (nI ((6 * t) + 3))) (vp_in_nI (by omega) (by omega)) d_La_law_690 ?_
                      refine aw_ti (y := nI k) (by rw [nI_clamp (by omega)]; exact hfr.symm) ?_
                      refine lv_aload_n hx hb d_La_law_691 rfl (lv_at hl 1 rfl) ?_
                      refine lv_iload hx hb d_La_law_692 (lv_at hl 5 rfl) ?_
                      refine lv_iconst (v := nI 4) hx hb d_La_law_694 (by decide +kernel) ?_
                      refine lv_iadd hx hb d_La_law_695 ?_
                      refine aw_ti (nI_add (6 * t) 4) ?_
                      refine va_sld hx hb hX hbl hbA hS (i := (nI ((6 * t) + 4))) (vp_in_nI (by omega) (by omega)) d_La_law_696 ?_
                      refine aw_ti (y := nI mm) (by rw [nI_clamp (by omega)]; exact hm0.symm) ?_
                      obtain ⟨_, he348⟩ := zr_M0 hSh
                      refine va_calli (va_runV (As := [.int (nI j), .int x347, .int (nI k), .int (nI mm)]) (rest := []) ⟨hx, hb, hml, hown, hG⟩ (k_Mo_feedXaV l D g ad N0 zG zO zX zY zA zB zM zI zL zK zN zF zQ j x347 k mm hj (by omega) (by omega) (by omega) (by omega)) (aw_wV 4 hG gw_12_26 gw_12_23 gw_0_10 gw_12_24 gw_12_25 rfl rfl hd_Mo_feed ⟨Nat.le_of_ble_eq_true rfl, Nat.le_of_ble_eq_true rfl⟩) (ag_qV (va_recv hK hP rfl he348) hP hD hSh hU hS) rfl rfl hl.1 rfl (lv_room (Nat.le_of_ble_eq_true rfl)) d_La_law_697 ⟨by omega, by omega⟩) hS (fun _ _ h => h) (fun _ h => h) ?_
                      clear hP hD hSh hS he348
                      intro x349 u8 t8 H locs ht _ ex349 hB _ _ hS
                      obtain ⟨L, hP, hD, hSh⟩ := hB
                      rw [ht] at hP
                      clear ht
                      have ex349 := ex349.symm
                      refine lv_istore hx hb d_La_law_700 hl (by decide) rfl (fun ls hl => ?_)
                      have hl : lv_has ls 8 [(6, .int x349), (5, .int (nI 3)), (0, .ref b), (1, .ref (aw_r ad 0)), (2, .ref (aw_m ad 0)), (3, .ref (aw_o ad)), (4, .int (nI (6 * t)))] := hl
                      refine lv_goto (tgt := 854) hx hb d_La_law_702 (by decide) ?_
                      refine lv_iinc (k := 6) (v := nI (6 * t + 6)) hx hb d_La_law_854 hl rfl (aw_inc (6 * t) 6 6 (by decide +kernel)) (by decide) rfl (fun ls hl => ?_)
                      have hl : lv_has ls 8 [(4, .int (nI (6 * t + 6))), (6, .int x349), (5, .int (nI 3)), (0, .ref b), (1, .ref (aw_r ad 0)), (2, .ref (aw_m ad 0)), (3, .ref (aw_o ad))] := hl
                      refine lv_goto (tgt := 23) hx hb d_La_law_857 (by decide) ?_
                      have hl := lv_sub hl (l' := [(0, .ref b), (1, .ref (aw_r ad 0)), (2, .ref (aw_m ad 0)), (3, .ref (aw_o ad)), (4, .int (nI (6 * t + 6)))]) [3, 4, 5, 6, 0] rfl
                      refine W.widen (k := 85 + (t + 1)) (n := 1246 + 6 * (t + 1)) (by omega) (by omega) ?_
                      exact ih (t + 1) zG zO zX zY zA zB zM zI zL zK zN (nI 3) zQ _ _ L ls (by omega) hP hD hSh hR hS (by first | exact hl | simpa [Nat.mul_add] using hl)
                    refine lv_if_eq (tgt := 684) hx hb d_La_law_677 (by decide) (fun h9 => ?_) (fun h9 => ?_)
                    · refine lv_iconst (v := nI 0) hx hb d_La_law_684 (by decide +kernel) ?_
                      exact hj346 _ (if_pos h9)
                    · refine lv_iconst (v := nI 1) hx hb d_La_law_680 (by decide +kernel) ?_
                      refine lv_goto (tgt := 685) hx hb d_La_law_681 (by decide) ?_
                      exact hj346 _ (if_neg h9)
                  refine lv_if_eq (tgt := 645) hx hb d_La_law_638 (by decide) (fun h9 => ?_) (fun h9 => ?_)
                  · refine lv_iconst (v := nI 0) hx hb d_La_law_645 (by decide +kernel) ?_
                    exact hj343 _ (if_pos h9)
                  · refine lv_iconst (v := nI 1) hx hb d_La_law_641 (by decide +kernel) ?_
                    refine lv_goto (tgt := 646) hx hb d_La_law_642 (by decide) ?_
                    exact hj343 _ (if_neg h9)
              · obtain ⟨kc, hkc, hci, hco⟩ := hR.2.1 j hj (by omega)
                refine lv_aload_n hx hb d_La_law_625 rfl (lv_at hl 1 rfl) ?_
                refine lv_aload_n hx hb d_La_law_626 rfl (lv_at hl 0 rfl) ?_
                refine lv_iload hx hb d_La_law_627 (lv_at hl 4 rfl) ?_
                refine lv_iconst (v := nI 1) hx hb d_La_law_629 (by decide +kernel) ?_
                refine lv_iadd hx hb d_La_law_630 ?_
                refine aw_ti (nI_add (6 * t) 1) ?_
                refine va_sld hx hb hX hbl hbA hS (i := (nI ((6 * t) + 1))) (vp_in_nI (by omega) (by omega)) d_La_law_631 ?_
                refine aw_ti (y := nI j) (by rw [nI_clamp (by omega)]; exact hc0.symm) ?_
                refine lv_aload_n hx hb d_La_law_632 rfl (lv_at hl 0 rfl) ?_
                refine lv_iload hx hb d_La_law_633 (lv_at hl 4 rfl) ?_
                refine lv_iconst (v := nI 2) hx hb d_La_law_635 (by decide +kernel) ?_
                refine lv_iadd hx hb d_La_law_636 ?_
                refine aw_ti (nI_add (6 * t) 2) ?_
                refine va_sld hx hb hX hbl hbA hS (i := (nI ((6 * t) + 2))) (vp_in_nI (by omega) (by omega)) d_La_law_637 ?_
                refine aw_ti (y := s2) (by rw [nI_clamp (by omega)]; exact hs2.symm) ?_
                have hj350 : ∀ x351 : Int32, (if s2 = 0 then nI 0 else nI 1) = x351 → W p l e room_1 s m #[Value.ref b] below meth c H locs (85 + t) (1246 + 6 * t) (lw_Z below #[Value.ref b] s) (F0 m 646 ls [.int x351, .int (nI j), .ref (aw_r ad 0)]) := by
                  intro x351 ebx351
                  refine lv_aload_n hx hb d_La_law_646 rfl (lv_at hl 0 rfl) ?_
                  refine lv_iload hx hb d_La_law_647 (lv_at hl 4 rfl) ?_
                  refine lv_iconst (v := nI 3) hx hb d_La_law_649 (by decide +kernel) ?_
                  refine lv_iadd hx hb d_La_law_650 ?_
                  refine aw_ti (nI_add (6 * t) 3) ?_
                  refine va_sld hx hb hX hbl hbA hS (i := (nI ((6 * t) + 3))) (vp_in_nI (by omega) (by omega)) d_La_law_651 ?_
                  refine aw_ti (y := nI k) (by rw [nI_clamp (by omega)]; exact hfr.symm) ?_
                  refine lv_aload_n hx hb d_La_law_652 rfl (lv_at hl 0 rfl) ?_
                  refine lv_iload hx hb d_La_law_653 (lv_at hl 4 rfl) ?_
                  refine lv_iconst (v := nI 4) hx hb d_La_law_655 (by decide +kernel) ?_
                  refine lv_iadd hx hb d_La_law_656 ?_
                  refine aw_ti (nI_add (6 * t) 4) ?_
                  refine va_sld hx hb hX hbl hbA hS (i := (nI ((6 * t) + 4))) (vp_in_nI (by omega) (by omega)) d_La_law_657 ?_
                  refine aw_ti (y := nI mm) (by rw [nI_clamp (by omega)]; exact hm0.symm) ?_
                  refine lv_aload_n hx hb d_La_law_658 rfl (lv_at hl 3 rfl) ?_
                  refine va_calli (vx_runSW (As := [.ref (aw_r ad 0), .int (nI j), .int x351, .int (nI k), .int (nI mm), .ref (aw_o ad)]) (rest := []) ⟨hx, hb, hml, hown, hG⟩ (k_La_feed11V l hst D g ad N0 zG zO zX zY zA zB zM zI zL zK zN zF zQ j x351 k mm hj (by omega) (by omega) (by omega) (by omega) (by omega)) (aw_wW 6 hG gw_7_42 gw_7_40 gw_0_0 gw_7_41 rfl rfl hd_La_feed ⟨Nat.le_of_ble_eq_true rfl, Nat.le_of_ble_eq_true rfl⟩) (ag_qS hP hD hSh hU hS) rfl rfl hl.1 rfl (lv_room (Nat.le_of_ble_eq_true rfl)) d_La_law_659 ⟨by omega, by omega⟩) hS (fun _ _ h => h) (fun _ h => h) ?_
                  clear hP hD hSh hS
                  intro x352 u8 t8 H locs ht _ ex352 hB _ _ hS
                  obtain ⟨L, hP, hD, hSh⟩ := hB
                  rw [ht] at hP
                  clear ht
                  subst ex352
                  obtain ⟨zX353, ezX353⟩ : ∃ z : Nat → Nat → Int64, v_La_feed11V_zX zG zO zX zY zA zB j x351 k mm = z := ⟨_, rfl⟩
                  rw [ezX353] at hSh
                  obtain ⟨zY354, ezY354⟩ : ∃ z : Nat → Nat → Int32, v_La_feed11V_zY zG zO zX zY zA zB j x351 k mm = z := ⟨_, rfl⟩
                  rw [ezY354] at hSh
                  obtain ⟨zB355, ezB355⟩ : ∃ z : Nat → Int32, v_La_feed11V_zB zG zO zX zY zA zB j x351 k mm = z := ⟨_, rfl⟩
                  rw [ezB355] at hSh
                  obtain ⟨zQ356, ezQ356⟩ : ∃ z : Int64, v_La_feed11V_zQ zG zO zX zY zA zB j x351 k mm = z := ⟨_, rfl⟩
                  rw [ezQ356] at hSh
                  refine lv_istore hx hb d_La_law_662 hl (by decide) rfl (fun ls hl => ?_)
                  have hl : lv_has ls 8 [(5, .int (nI 0)), (0, .ref b), (1, .ref (aw_r ad 0)), (2, .ref (aw_m ad 0)), (3, .ref (aw_o ad)), (4, .int (nI (6 * t)))] := hl
                  refine lv_aload_n hx hb d_La_law_664 rfl (lv_at hl 3 rfl) ?_
                  refine lv_aload_n hx hb d_La_law_665 rfl (lv_at hl 1 rfl) ?_
                  refine lv_iload hx hb d_La_law_666 (lv_at hl 5 rfl) ?_
                  refine lv_iconst (v := nI 1) hx hb d_La_law_668 (by decide +kernel) ?_
                  refine lv_iadd hx hb d_La_law_669 ?_
                  refine aw_ti (nI_add (6 * t) 1) ?_
                  refine va_sld hx hb hX hbl hbA hS (i := (nI ((6 * t) + 1))) (vp_in_nI (by omega) (by omega)) d_La_law_670 ?_
                  refine aw_ti (y := nI j) (by rw [nI_clamp (by omega)]; exact hc0.symm) ?_
                  refine lv_aload_n hx hb d_La_law_671 rfl (lv_at hl 1 rfl) ?_
                  refine lv_iload hx hb d_La_law_672 (lv_at hl 5 rfl) ?_
                  refine lv_iconst (v := nI 2) hx hb d_La_law_674 (by decide +kernel) ?_
                  refine lv_iadd hx hb d_La_law_675 ?_
                  refine aw_ti (nI_add (6 * t) 2) ?_
                  refine va_sld hx hb hX hbl hbA hS (i := (nI ((6 * t) + 2))) (vp_in_nI (by omega) (by omega)) d_La_law_676 ?_
                  refine aw_ti (y := s2) (by rw [nI_clamp (by omega)]; exact hs2.symm) ?_
                  have hj357 : ∀ x358 : Int32, (if s2 = 0 then nI 0 else nI 1) = x358 → W p l e room_1 s m #[Value.ref b] below meth c H locs ((85 + t) + 1) ((1246 + 6 * t) + 6) (lw_Z below #[Value.ref b] s) (F0 m 685 ls [.int x358, .int (nI j), .ref (aw_m ad 0)]) := by
                    intro x358 ebx358
                    refine lv_aload_n hx hb d_La_law_685 rfl (lv_at hl 1 rfl) ?_
                    refine lv_iload hx hb d_La_law_686 (lv_at hl 5 rfl) ?_
                    refine lv_iconst (v := nI 3) hx hb d_La_law_688 (by decide +kernel) ?_
                    refine lv_iadd hx hb d_La_law_689 ?_
                    refine aw_ti (nI_add (6 * t) 3) ?_
                    refine va_sld hx hb hX hbl hbA hS (i := (nI ((6 * t) + 3))) (vp_in_nI (by omega) (by omega)) d_La_law_690 ?_
                    refine aw_ti (y := nI k) (by rw [nI_clamp (by omega)]; exact hfr.symm) ?_
                    refine lv_aload_n hx hb d_La_law_691 rfl (lv_at hl 1 rfl) ?_
                    refine lv_iload hx hb d_La_law_692 (lv_at hl 5 rfl) ?_
                    refine lv_iconst (v := nI 4) hx hb d_La_law_694 (by decide +kernel) ?_
                    refine lv_iadd hx hb d_La_law_695 ?_
                    refine aw_ti (nI_add (6 * t) 4) ?_
                    refine va_sld hx hb hX hbl hbA hS (i := (nI ((6 * t) + 4))) (vp_in_nI (by omega) (by omega)) d_La_law_696 ?_
                    refine aw_ti (y := nI mm) (by rw [nI_clamp (by omega)]; exact hm0.symm) ?_
                    obtain ⟨_, he359⟩ := zr_M0 hSh
                    refine va_calli (va_runV (As := [.int (nI j), .int x358, .int (nI k), .int (nI mm)]) (rest := []) ⟨hx, hb, hml, hown, hG⟩ (k_Mo_feed1V l D g ad N0 zG zO zX353 zY354 zA zB355 zM zI zL zK zN zF zQ356 j kc x358 k mm hj (by omega) (by omega) (by omega) (by omega) hkc hci) (aw_wV 4 hG gw_12_26 gw_12_23 gw_0_10 gw_12_24 gw_12_25 rfl rfl hd_Mo_feed ⟨Nat.le_of_ble_eq_true rfl, Nat.le_of_ble_eq_true rfl⟩) (ag_qV (va_recv hK hP rfl he359) hP hD hSh hU hS) rfl rfl hl.1 rfl (lv_room (Nat.le_of_ble_eq_true rfl)) d_La_law_697 ⟨by omega, by omega⟩) hS (fun _ _ h => h) (fun _ h => h) ?_
                    clear hP hD hSh hS he359
                    intro x360 u8 t8 H locs ht _ ex360 hB _ _ hS
                    obtain ⟨L, hP, hD, hSh⟩ := hB
                    rw [ht] at hP
                    clear ht
                    obtain ⟨zI361, ezI361⟩ : ∃ z : Nat → Nat → Int32, v_Mo_feed1V_zI zM zI zL j kc x358 k mm = z := ⟨_, rfl⟩
                    rw [ezI361] at hSh
                    obtain ⟨zL362, ezL362⟩ : ∃ z : Nat → Nat → Int64, v_Mo_feed1V_zL zM zI zL j kc x358 k mm = z := ⟨_, rfl⟩
                    rw [ezL362] at hSh
                    have ex360 := ex360.symm
                    refine lv_istore hx hb d_La_law_700 hl (by decide) rfl (fun ls hl => ?_)
                    have hl : lv_has ls 8 [(6, .int x360), (5, .int (nI 0)), (0, .ref b), (1, .ref (aw_r ad 0)), (2, .ref (aw_m ad 0)), (3, .ref (aw_o ad)), (4, .int (nI (6 * t)))] := hl
                    refine lv_goto (tgt := 854) hx hb d_La_law_702 (by decide) ?_
                    refine lv_iinc (k := 6) (v := nI (6 * t + 6)) hx hb d_La_law_854 hl rfl (aw_inc (6 * t) 6 6 (by decide +kernel)) (by decide) rfl (fun ls hl => ?_)
                    have hl : lv_has ls 8 [(4, .int (nI (6 * t + 6))), (6, .int x360), (5, .int (nI 0)), (0, .ref b), (1, .ref (aw_r ad 0)), (2, .ref (aw_m ad 0)), (3, .ref (aw_o ad))] := hl
                    refine lv_goto (tgt := 23) hx hb d_La_law_857 (by decide) ?_
                    have hl := lv_sub hl (l' := [(0, .ref b), (1, .ref (aw_r ad 0)), (2, .ref (aw_m ad 0)), (3, .ref (aw_o ad)), (4, .int (nI (6 * t + 6)))]) [3, 4, 5, 6, 0] rfl
                    refine W.widen (k := 85 + (t + 1)) (n := 1246 + 6 * (t + 1)) (by omega) (by omega) ?_
                    have hR : az_R zG zO zX353 zY354 zA zB355 zM zI361 zL362 := by
                      subst ex360 ezL362 ezI361 ebx358 ezQ356 ezB355 ezY354 ezX353 ebx351
                      exact r_feed11_1 hR hj hs (by omega) (by omega) h0 hk hkc hci hco
                    exact ih (t + 1) zG zO zX353 zY354 zA zB355 zM zI361 zL362 (nI kc) (az_wn kc) (nI 0) zQ356 _ _ L ls (by omega) hP hD hSh hR hS (by first | exact hl | simpa [Nat.mul_add] using hl)
                  refine lv_if_eq (tgt := 684) hx hb d_La_law_677 (by decide) (fun h9 => ?_) (fun h9 => ?_)
                  · refine lv_iconst (v := nI 0) hx hb d_La_law_684 (by decide +kernel) ?_
                    exact hj357 _ (if_pos h9)
                  · refine lv_iconst (v := nI 1) hx hb d_La_law_680 (by decide +kernel) ?_
                    refine lv_goto (tgt := 685) hx hb d_La_law_681 (by decide) ?_
                    exact hj357 _ (if_neg h9)
                refine lv_if_eq (tgt := 645) hx hb d_La_law_638 (by decide) (fun h9 => ?_) (fun h9 => ?_)
                · refine lv_iconst (v := nI 0) hx hb d_La_law_645 (by decide +kernel) ?_
                  exact hj350 _ (if_pos h9)
                · refine lv_iconst (v := nI 1) hx hb d_La_law_641 (by decide +kernel) ?_
                  refine lv_goto (tgt := 646) hx hb d_La_law_642 (by decide) ?_
                  exact hj350 _ (if_neg h9)
          · refine lv_aload_n hx hb d_La_law_625 rfl (lv_at hl 1 rfl) ?_
            refine lv_aload_n hx hb d_La_law_626 rfl (lv_at hl 0 rfl) ?_
            refine lv_iload hx hb d_La_law_627 (lv_at hl 4 rfl) ?_
            refine lv_iconst (v := nI 1) hx hb d_La_law_629 (by decide +kernel) ?_
            refine lv_iadd hx hb d_La_law_630 ?_
            refine aw_ti (nI_add (6 * t) 1) ?_
            refine va_sld hx hb hX hbl hbA hS (i := (nI ((6 * t) + 1))) (vp_in_nI (by omega) (by omega)) d_La_law_631 ?_
            refine aw_ti (y := nI j) (by rw [nI_clamp (by omega)]; exact hc0.symm) ?_
            refine lv_aload_n hx hb d_La_law_632 rfl (lv_at hl 0 rfl) ?_
            refine lv_iload hx hb d_La_law_633 (lv_at hl 4 rfl) ?_
            refine lv_iconst (v := nI 2) hx hb d_La_law_635 (by decide +kernel) ?_
            refine lv_iadd hx hb d_La_law_636 ?_
            refine aw_ti (nI_add (6 * t) 2) ?_
            refine va_sld hx hb hX hbl hbA hS (i := (nI ((6 * t) + 2))) (vp_in_nI (by omega) (by omega)) d_La_law_637 ?_
            refine aw_ti (y := s2) (by rw [nI_clamp (by omega)]; exact hs2.symm) ?_
            have hj363 : ∀ x364 : Int32, (if s2 = 0 then nI 0 else nI 1) = x364 → W p l e room_1 s m #[Value.ref b] below meth c H locs (85 + t) (1246 + 6 * t) (lw_Z below #[Value.ref b] s) (F0 m 646 ls [.int x364, .int (nI j), .ref (aw_r ad 0)]) := by
              intro x364 ebx364
              refine lv_aload_n hx hb d_La_law_646 rfl (lv_at hl 0 rfl) ?_
              refine lv_iload hx hb d_La_law_647 (lv_at hl 4 rfl) ?_
              refine lv_iconst (v := nI 3) hx hb d_La_law_649 (by decide +kernel) ?_
              refine lv_iadd hx hb d_La_law_650 ?_
              refine aw_ti (nI_add (6 * t) 3) ?_
              refine va_sld hx hb hX hbl hbA hS (i := (nI ((6 * t) + 3))) (vp_in_nI (by omega) (by omega)) d_La_law_651 ?_
              refine aw_ti (y := nI k) (by rw [nI_clamp (by omega)]; exact hfr.symm) ?_
              refine lv_aload_n hx hb d_La_law_652 rfl (lv_at hl 0 rfl) ?_
              refine lv_iload hx hb d_La_law_653 (lv_at hl 4 rfl) ?_
              refine lv_iconst (v := nI 4) hx hb d_La_law_655 (by decide +kernel) ?_
              refine lv_iadd hx hb d_La_law_656 ?_
              refine aw_ti (nI_add (6 * t) 4) ?_
              refine va_sld hx hb hX hbl hbA hS (i := (nI ((6 * t) + 4))) (vp_in_nI (by omega) (by omega)) d_La_law_657 ?_
              refine aw_ti (y := nI mm) (by rw [nI_clamp (by omega)]; exact hm0.symm) ?_
              refine lv_aload_n hx hb d_La_law_658 rfl (lv_at hl 3 rfl) ?_
              refine va_calli (vx_runSW (As := [.ref (aw_r ad 0), .int (nI j), .int x364, .int (nI k), .int (nI mm), .ref (aw_o ad)]) (rest := []) ⟨hx, hb, hml, hown, hG⟩ (k_La_feedXs1V l hst D g ad N0 zG zO zX zY zA zB zM zI zL zK zN zF zQ j x364 k mm hj (by omega) (by omega) (by omega)) (aw_wW 6 hG gw_7_42 gw_7_40 gw_0_0 gw_7_41 rfl rfl hd_La_feed ⟨Nat.le_of_ble_eq_true rfl, Nat.le_of_ble_eq_true rfl⟩) (ag_qS hP hD hSh hU hS) rfl rfl hl.1 rfl (lv_room (Nat.le_of_ble_eq_true rfl)) d_La_law_659 ⟨by omega, by omega⟩) hS (fun _ _ h => h) (fun _ h => h) ?_
              clear hP hD hSh hS
              intro x365 u8 t8 H locs ht _ ex365 hB _ _ hS
              obtain ⟨L, hP, hD, hSh⟩ := hB
              rw [ht] at hP
              clear ht
              subst ex365
              refine lv_istore hx hb d_La_law_662 hl (by decide) rfl (fun ls hl => ?_)
              have hl : lv_has ls 8 [(5, .int (nI 2)), (0, .ref b), (1, .ref (aw_r ad 0)), (2, .ref (aw_m ad 0)), (3, .ref (aw_o ad)), (4, .int (nI (6 * t)))] := hl
              refine lv_aload_n hx hb d_La_law_664 rfl (lv_at hl 3 rfl) ?_
              refine lv_aload_n hx hb d_La_law_665 rfl (lv_at hl 1 rfl) ?_
              refine lv_iload hx hb d_La_law_666 (lv_at hl 5 rfl) ?_
              refine lv_iconst (v := nI 1) hx hb d_La_law_668 (by decide +kernel) ?_
              refine lv_iadd hx hb d_La_law_669 ?_
              refine aw_ti (nI_add (6 * t) 1) ?_
              refine va_sld hx hb hX hbl hbA hS (i := (nI ((6 * t) + 1))) (vp_in_nI (by omega) (by omega)) d_La_law_670 ?_
              refine aw_ti (y := nI j) (by rw [nI_clamp (by omega)]; exact hc0.symm) ?_
              refine lv_aload_n hx hb d_La_law_671 rfl (lv_at hl 1 rfl) ?_
              refine lv_iload hx hb d_La_law_672 (lv_at hl 5 rfl) ?_
              refine lv_iconst (v := nI 2) hx hb d_La_law_674 (by decide +kernel) ?_
              refine lv_iadd hx hb d_La_law_675 ?_
              refine aw_ti (nI_add (6 * t) 2) ?_
              refine va_sld hx hb hX hbl hbA hS (i := (nI ((6 * t) + 2))) (vp_in_nI (by omega) (by omega)) d_La_law_676 ?_
              refine aw_ti (y := s2) (by rw [nI_clamp (by omega)]; exact hs2.symm) ?_
              have hj366 : ∀ x367 : Int32, (if s2 = 0 then nI 0 else nI 1) = x367 → W p l e room_1 s m #[Value.ref b] below meth c H locs ((85 + t) + 1) ((1246 + 6 * t) + 6) (lw_Z below #[Value.ref b] s) (F0 m 685 ls [.int x367, .int (nI j), .ref (aw_m ad 0)]) := by
                intro x367 ebx367
                refine lv_aload_n hx hb d_La_law_685 rfl (lv_at hl 1 rfl) ?_
                refine lv_iload hx hb d_La_law_686 (lv_at hl 5 rfl) ?_
                refine lv_iconst (v := nI 3) hx hb d_La_law_688 (by decide +kernel) ?_
                refine lv_iadd hx hb d_La_law_689 ?_
                refine aw_ti (nI_add (6 * t) 3) ?_
                refine va_sld hx hb hX hbl hbA hS (i := (nI ((6 * t) + 3))) (vp_in_nI (by omega) (by omega)) d_La_law_690 ?_
                refine aw_ti (y := nI k) (by rw [nI_clamp (by omega)]; exact hfr.symm) ?_
                refine lv_aload_n hx hb d_La_law_691 rfl (lv_at hl 1 rfl) ?_
                refine lv_iload hx hb d_La_law_692 (lv_at hl 5 rfl) ?_
                refine lv_iconst (v := nI 4) hx hb d_La_law_694 (by decide +kernel) ?_
                refine lv_iadd hx hb d_La_law_695 ?_
                refine aw_ti (nI_add (6 * t) 4) ?_
                refine va_sld hx hb hX hbl hbA hS (i := (nI ((6 * t) + 4))) (vp_in_nI (by omega) (by omega)) d_La_law_696 ?_
                refine aw_ti (y := nI mm) (by rw [nI_clamp (by omega)]; exact hm0.symm) ?_
                obtain ⟨_, he368⟩ := zr_M0 hSh
                refine va_calli (va_runV (As := [.int (nI j), .int x367, .int (nI k), .int (nI mm)]) (rest := []) ⟨hx, hb, hml, hown, hG⟩ (k_Mo_feedXsV l D g ad N0 zG zO zX zY zA zB zM zI zL zK zN zF zQ j x367 k mm hj (by omega) (by omega)) (aw_wV 4 hG gw_12_26 gw_12_23 gw_0_10 gw_12_24 gw_12_25 rfl rfl hd_Mo_feed ⟨Nat.le_of_ble_eq_true rfl, Nat.le_of_ble_eq_true rfl⟩) (ag_qV (va_recv hK hP rfl he368) hP hD hSh hU hS) rfl rfl hl.1 rfl (lv_room (Nat.le_of_ble_eq_true rfl)) d_La_law_697 ⟨by omega, by omega⟩) hS (fun _ _ h => h) (fun _ h => h) ?_
                clear hP hD hSh hS he368
                intro x369 u8 t8 H locs ht _ ex369 hB _ _ hS
                obtain ⟨L, hP, hD, hSh⟩ := hB
                rw [ht] at hP
                clear ht
                have ex369 := ex369.symm
                refine lv_istore hx hb d_La_law_700 hl (by decide) rfl (fun ls hl => ?_)
                have hl : lv_has ls 8 [(6, .int x369), (5, .int (nI 2)), (0, .ref b), (1, .ref (aw_r ad 0)), (2, .ref (aw_m ad 0)), (3, .ref (aw_o ad)), (4, .int (nI (6 * t)))] := hl
                refine lv_goto (tgt := 854) hx hb d_La_law_702 (by decide) ?_
                refine lv_iinc (k := 6) (v := nI (6 * t + 6)) hx hb d_La_law_854 hl rfl (aw_inc (6 * t) 6 6 (by decide +kernel)) (by decide) rfl (fun ls hl => ?_)
                have hl : lv_has ls 8 [(4, .int (nI (6 * t + 6))), (6, .int x369), (5, .int (nI 2)), (0, .ref b), (1, .ref (aw_r ad 0)), (2, .ref (aw_m ad 0)), (3, .ref (aw_o ad))] := hl
                refine lv_goto (tgt := 23) hx hb d_La_law_857 (by decide) ?_
                have hl := lv_sub hl (l' := [(0, .ref b), (1, .ref (aw_r ad 0)), (2, .ref (aw_m ad 0)), (3, .ref (aw_o ad)), (4, .int (nI (6 * t + 6)))]) [3, 4, 5, 6, 0] rfl
                refine W.widen (k := 85 + (t + 1)) (n := 1246 + 6 * (t + 1)) (by omega) (by omega) ?_
                exact ih (t + 1) zG zO zX zY zA zB zM zI zL zK zN (nI 2) zQ _ _ L ls (by omega) hP hD hSh hR hS (by first | exact hl | simpa [Nat.mul_add] using hl)
              refine lv_if_eq (tgt := 684) hx hb d_La_law_677 (by decide) (fun h9 => ?_) (fun h9 => ?_)
              · refine lv_iconst (v := nI 0) hx hb d_La_law_684 (by decide +kernel) ?_
                exact hj366 _ (if_pos h9)
              · refine lv_iconst (v := nI 1) hx hb d_La_law_680 (by decide +kernel) ?_
                refine lv_goto (tgt := 685) hx hb d_La_law_681 (by decide) ?_
                exact hj366 _ (if_neg h9)
            refine lv_if_eq (tgt := 645) hx hb d_La_law_638 (by decide) (fun h9 => ?_) (fun h9 => ?_)
            · refine lv_iconst (v := nI 0) hx hb d_La_law_645 (by decide +kernel) ?_
              exact hj363 _ (if_pos h9)
            · refine lv_iconst (v := nI 1) hx hb d_La_law_641 (by decide +kernel) ?_
              refine lv_goto (tgt := 646) hx hb d_La_law_642 (by decide) ?_
              exact hj363 _ (if_neg h9)
    · refine aw_ti (y := nI 10) (by rw [hs3]) ?_
      refine lv_tableIn (tgt := 705) (off := 665) hx hb d_La_law_40 (by decide +kernel) (by decide +kernel) (by decide +kernel) (by decide) ?_
      obtain ⟨c0, hc0⟩ : ∃ z : Int32, z = xs (6 * t + 1) := ⟨_, rfl⟩
      obtain ⟨s2, hs2⟩ : ∃ z : Int32, z = xs (6 * t + 2) := ⟨_, rfl⟩
      obtain ⟨s3, hs3⟩ : ∃ z : Int32, z = xs (6 * t + 3) := ⟨_, rfl⟩
      rcases aw_rng 4 (by decide) c0 with hc | ⟨j, hj, rfl⟩
      · refine lv_aload_n hx hb d_La_law_705 rfl (lv_at hl 1 rfl) ?_
        refine lv_aload_n hx hb d_La_law_706 rfl (lv_at hl 0 rfl) ?_
        refine lv_iload hx hb d_La_law_707 (lv_at hl 4 rfl) ?_
        refine lv_iconst (v := nI 1) hx hb d_La_law_709 (by decide +kernel) ?_
        refine lv_iadd hx hb d_La_law_710 ?_
        refine aw_ti (nI_add (6 * t) 1) ?_
        refine va_sld hx hb hX hbl hbA hS (i := (nI ((6 * t) + 1))) (vp_in_nI (by omega) (by omega)) d_La_law_711 ?_
        refine aw_ti (y := c0) (by rw [nI_clamp (by omega)]; exact hc0.symm) ?_
        refine lv_aload_n hx hb d_La_law_712 rfl (lv_at hl 0 rfl) ?_
        refine lv_iload hx hb d_La_law_713 (lv_at hl 4 rfl) ?_
        refine lv_iconst (v := nI 2) hx hb d_La_law_715 (by decide +kernel) ?_
        refine lv_iadd hx hb d_La_law_716 ?_
        refine aw_ti (nI_add (6 * t) 2) ?_
        refine va_sld hx hb hX hbl hbA hS (i := (nI ((6 * t) + 2))) (vp_in_nI (by omega) (by omega)) d_La_law_717 ?_
        refine aw_ti (y := s2) (by rw [nI_clamp (by omega)]; exact hs2.symm) ?_
        refine lv_i2l hx hb d_La_law_718 rfl ?_
        refine ag_topl (fun y370 ey370 => ?_)
        refine lv_bipush (v := nI 32) hx hb d_La_law_719 (by decide +kernel) ?_
        refine lv_lshl hx hb d_La_law_721 rfl ?_
        refine ag_topl (fun y371 ey371 => ?_)
        refine lv_aload_n hx hb d_La_law_722 rfl (lv_at hl 0 rfl) ?_
        refine lv_iload hx hb d_La_law_723 (lv_at hl 4 rfl) ?_
        refine lv_iconst (v := nI 3) hx hb d_La_law_725 (by decide +kernel) ?_
        refine lv_iadd hx hb d_La_law_726 ?_
        refine aw_ti (nI_add (6 * t) 3) ?_
        refine va_sld hx hb hX hbl hbA hS (i := (nI ((6 * t) + 3))) (vp_in_nI (by omega) (by omega)) d_La_law_727 ?_
        refine aw_ti (y := s3) (by rw [nI_clamp (by omega)]; exact hs3.symm) ?_
        refine lv_i2l hx hb d_La_law_728 rfl ?_
        refine ag_topl (fun y372 ey372 => ?_)
        refine lv_ldc2 (v := 4294967295) hx hb hown (hG _ gw_13_3) d_La_law_729 ?_
        refine lv_land hx hb d_La_law_732 ?_
        refine ag_topl (fun y373 ey373 => ?_)
        refine lv_lor hx hb d_La_law_733 ?_
        refine ag_topl (fun y374 ey374 => ?_)
        refine va_calli (vx_runSW (As := [.ref (aw_r ad 0), .int c0, .long y374]) (rest := []) ⟨hx, hb, hml, hown, hG⟩ (k_La_seekXcV l hst D g ad N0 zG zO zX zY zA zB zM zI zL zK zN zF zQ c0 y374 hc) (aw_wW 3 hG gw_8_26 gw_8_24 gw_0_0 gw_8_25 rfl rfl hd_La_seek ⟨Nat.le_of_ble_eq_true rfl, Nat.le_of_ble_eq_true rfl⟩) (ag_qS hP hD hSh hU hS) rfl rfl hl.1 rfl (lv_room (Nat.le_of_ble_eq_true rfl)) d_La_law_734 ⟨by omega, by omega⟩) hS (fun _ _ h => h) (fun _ h => h) ?_
        clear hP hD hSh hS
        intro x375 u8 t8 H locs ht _ ex375 hB _ _ hS
        obtain ⟨L, hP, hD, hSh⟩ := hB
        rw [ht] at hP
        clear ht
        subst ex375
        refine lv_istore hx hb d_La_law_737 hl (by decide) rfl (fun ls hl => ?_)
        have hl : lv_has ls 8 [(5, .int (nI 1)), (0, .ref b), (1, .ref (aw_r ad 0)), (2, .ref (aw_m ad 0)), (3, .ref (aw_o ad)), (4, .int (nI (6 * t)))] := hl
        refine lv_aload_n hx hb d_La_law_739 rfl (lv_at hl 3 rfl) ?_
        refine lv_aload_n hx hb d_La_law_740 rfl (lv_at hl 1 rfl) ?_
        refine lv_iload hx hb d_La_law_741 (lv_at hl 5 rfl) ?_
        refine lv_iconst (v := nI 1) hx hb d_La_law_743 (by decide +kernel) ?_
        refine lv_iadd hx hb d_La_law_744 ?_
        refine aw_ti (nI_add (6 * t) 1) ?_
        refine va_sld hx hb hX hbl hbA hS (i := (nI ((6 * t) + 1))) (vp_in_nI (by omega) (by omega)) d_La_law_745 ?_
        refine aw_ti (y := c0) (by rw [nI_clamp (by omega)]; exact hc0.symm) ?_
        refine lv_aload_n hx hb d_La_law_746 rfl (lv_at hl 1 rfl) ?_
        refine lv_iload hx hb d_La_law_747 (lv_at hl 5 rfl) ?_
        refine lv_iconst (v := nI 2) hx hb d_La_law_749 (by decide +kernel) ?_
        refine lv_iadd hx hb d_La_law_750 ?_
        refine aw_ti (nI_add (6 * t) 2) ?_
        refine va_sld hx hb hX hbl hbA hS (i := (nI ((6 * t) + 2))) (vp_in_nI (by omega) (by omega)) d_La_law_751 ?_
        refine aw_ti (y := s2) (by rw [nI_clamp (by omega)]; exact hs2.symm) ?_
        refine lv_i2l hx hb d_La_law_752 rfl ?_
        refine ag_topl (fun y376 ey376 => ?_)
        refine lv_bipush (v := nI 32) hx hb d_La_law_753 (by decide +kernel) ?_
        refine lv_lshl hx hb d_La_law_755 rfl ?_
        refine ag_topl (fun y377 ey377 => ?_)
        refine lv_aload_n hx hb d_La_law_756 rfl (lv_at hl 1 rfl) ?_
        refine lv_iload hx hb d_La_law_757 (lv_at hl 5 rfl) ?_
        refine lv_iconst (v := nI 3) hx hb d_La_law_759 (by decide +kernel) ?_
        refine lv_iadd hx hb d_La_law_760 ?_
        refine aw_ti (nI_add (6 * t) 3) ?_
        refine va_sld hx hb hX hbl hbA hS (i := (nI ((6 * t) + 3))) (vp_in_nI (by omega) (by omega)) d_La_law_761 ?_
        refine aw_ti (y := s3) (by rw [nI_clamp (by omega)]; exact hs3.symm) ?_
        refine lv_i2l hx hb d_La_law_762 rfl ?_
        refine ag_topl (fun y378 ey378 => ?_)
        refine lv_ldc2 (v := 4294967295) hx hb hown (hG _ gw_13_3) d_La_law_763 ?_
        refine lv_land hx hb d_La_law_766 ?_
        refine ag_topl (fun y379 ey379 => ?_)
        refine lv_lor hx hb d_La_law_767 ?_
        refine ag_topl (fun y380 ey380 => ?_)
        obtain ⟨_, he381⟩ := zr_M0 hSh
        refine va_callv (va_runV (As := [.int c0, .long y380]) (rest := []) ⟨hx, hb, hml, hown, hG⟩ (k_Mo_seekXcV l D g ad N0 zG zO zX zY zA zB zM zI zL zK zN zF zQ c0 y380 hc) (aw_wV 2 hG gw_12_45 gw_12_42 gw_0_10 gw_12_43 gw_12_44 rfl rfl hd_Mo_seek ⟨Nat.le_of_ble_eq_true rfl, Nat.le_of_ble_eq_true rfl⟩) (ag_qV (va_recv hK hP rfl he381) hP hD hSh hU hS) rfl rfl hl.1 rfl (lv_room (Nat.le_of_ble_eq_true rfl)) d_La_law_768 ⟨by omega, by omega⟩) hS (fun _ _ h => h) (fun _ h => h) ?_
        clear hP hD hSh hS he381
        intro u8 t8 H locs ht _ _ hB _ _ hS
        obtain ⟨L, hP, hD, hSh⟩ := hB
        rw [ht] at hP
        clear ht
        refine lv_goto (tgt := 854) hx hb d_La_law_771 (by decide) ?_
        refine lv_iinc (k := 5) (v := nI (6 * t + 6)) hx hb d_La_law_854 hl rfl (aw_inc (6 * t) 6 6 (by decide +kernel)) (by decide) rfl (fun ls hl => ?_)
        have hl : lv_has ls 8 [(4, .int (nI (6 * t + 6))), (5, .int (nI 1)), (0, .ref b), (1, .ref (aw_r ad 0)), (2, .ref (aw_m ad 0)), (3, .ref (aw_o ad))] := hl
        refine lv_goto (tgt := 23) hx hb d_La_law_857 (by decide) ?_
        have hl := lv_sub hl (l' := [(0, .ref b), (1, .ref (aw_r ad 0)), (2, .ref (aw_m ad 0)), (3, .ref (aw_o ad)), (4, .int (nI (6 * t + 6)))]) [2, 3, 4, 5, 0] rfl
        refine W.widen (k := 85 + (t + 1)) (n := 1246 + 6 * (t + 1)) (by omega) (by omega) ?_
        exact ih (t + 1) zG zO zX zY zA zB zM zI zL zK zN (nI 1) zQ _ _ L ls (by omega) hP hD hSh hR hS (by first | exact hl | simpa [Nat.mul_add] using hl)
      · have hgj := hSh.2.2.2.2.1 j hj
        have hq1 : (zM j).1 = (zG j).1 := by rw [hR.1 j hj]
        have hq2 : (zM j).2 = (zG j).2 := by rw [hR.1 j hj]
        by_cases hs : (zG j).1 = 3 ∧ (zG j).2 = 4
        · refine lv_aload_n hx hb d_La_law_705 rfl (lv_at hl 1 rfl) ?_
          refine lv_aload_n hx hb d_La_law_706 rfl (lv_at hl 0 rfl) ?_
          refine lv_iload hx hb d_La_law_707 (lv_at hl 4 rfl) ?_
          refine lv_iconst (v := nI 1) hx hb d_La_law_709 (by decide +kernel) ?_
          refine lv_iadd hx hb d_La_law_710 ?_
          refine aw_ti (nI_add (6 * t) 1) ?_
          refine va_sld hx hb hX hbl hbA hS (i := (nI ((6 * t) + 1))) (vp_in_nI (by omega) (by omega)) d_La_law_711 ?_
          refine aw_ti (y := nI j) (by rw [nI_clamp (by omega)]; exact hc0.symm) ?_
          refine lv_aload_n hx hb d_La_law_712 rfl (lv_at hl 0 rfl) ?_
          refine lv_iload hx hb d_La_law_713 (lv_at hl 4 rfl) ?_
          refine lv_iconst (v := nI 2) hx hb d_La_law_715 (by decide +kernel) ?_
          refine lv_iadd hx hb d_La_law_716 ?_
          refine aw_ti (nI_add (6 * t) 2) ?_
          refine va_sld hx hb hX hbl hbA hS (i := (nI ((6 * t) + 2))) (vp_in_nI (by omega) (by omega)) d_La_law_717 ?_
          refine aw_ti (y := s2) (by rw [nI_clamp (by omega)]; exact hs2.symm) ?_
          refine lv_i2l hx hb d_La_law_718 rfl ?_
          refine ag_topl (fun y382 ey382 => ?_)
          refine lv_bipush (v := nI 32) hx hb d_La_law_719 (by decide +kernel) ?_
          refine lv_lshl hx hb d_La_law_721 rfl ?_
          refine ag_topl (fun y383 ey383 => ?_)
          refine lv_aload_n hx hb d_La_law_722 rfl (lv_at hl 0 rfl) ?_
          refine lv_iload hx hb d_La_law_723 (lv_at hl 4 rfl) ?_
          refine lv_iconst (v := nI 3) hx hb d_La_law_725 (by decide +kernel) ?_
          refine lv_iadd hx hb d_La_law_726 ?_
          refine aw_ti (nI_add (6 * t) 3) ?_
          refine va_sld hx hb hX hbl hbA hS (i := (nI ((6 * t) + 3))) (vp_in_nI (by omega) (by omega)) d_La_law_727 ?_
          refine aw_ti (y := s3) (by rw [nI_clamp (by omega)]; exact hs3.symm) ?_
          refine lv_i2l hx hb d_La_law_728 rfl ?_
          refine ag_topl (fun y384 ey384 => ?_)
          refine lv_ldc2 (v := 4294967295) hx hb hown (hG _ gw_13_3) d_La_law_729 ?_
          refine lv_land hx hb d_La_law_732 ?_
          refine ag_topl (fun y385 ey385 => ?_)
          refine lv_lor hx hb d_La_law_733 ?_
          refine ag_topl (fun y386 ey386 => ?_)
          refine va_calli (vx_runSW (As := [.ref (aw_r ad 0), .int (nI j), .long y386]) (rest := []) ⟨hx, hb, hml, hown, hG⟩ (k_La_seek1V l hst D g ad N0 zG zO zX zY zA zB zM zI zL zK zN zF zQ j y386 hj (by omega)) (aw_wW 3 hG gw_8_26 gw_8_24 gw_0_0 gw_8_25 rfl rfl hd_La_seek ⟨Nat.le_of_ble_eq_true rfl, Nat.le_of_ble_eq_true rfl⟩) (ag_qS hP hD hSh hU hS) rfl rfl hl.1 rfl (lv_room (Nat.le_of_ble_eq_true rfl)) d_La_law_734 ⟨by omega, by omega⟩) hS (fun _ _ h => h) (fun _ h => h) ?_
          clear hP hD hSh hS
          intro x387 u8 t8 H locs ht _ ex387 hB _ _ hS
          obtain ⟨L, hP, hD, hSh⟩ := hB
          rw [ht] at hP
          clear ht
          subst ex387
          obtain ⟨zX388, ezX388⟩ : ∃ z : Nat → Nat → Int64, v_La_seek1V_zX zX zY j y386 = z := ⟨_, rfl⟩
          rw [ezX388] at hSh
          obtain ⟨zY389, ezY389⟩ : ∃ z : Nat → Nat → Int32, v_La_seek1V_zY zX zY j y386 = z := ⟨_, rfl⟩
          rw [ezY389] at hSh
          refine lv_istore hx hb d_La_law_737 hl (by decide) rfl (fun ls hl => ?_)
          have hl : lv_has ls 8 [(5, .int (nI 0)), (0, .ref b), (1, .ref (aw_r ad 0)), (2, .ref (aw_m ad 0)), (3, .ref (aw_o ad)), (4, .int (nI (6 * t)))] := hl
          refine lv_aload_n hx hb d_La_law_739 rfl (lv_at hl 3 rfl) ?_
          refine lv_aload_n hx hb d_La_law_740 rfl (lv_at hl 1 rfl) ?_
          refine lv_iload hx hb d_La_law_741 (lv_at hl 5 rfl) ?_
          refine lv_iconst (v := nI 1) hx hb d_La_law_743 (by decide +kernel) ?_
          refine lv_iadd hx hb d_La_law_744 ?_
          refine aw_ti (nI_add (6 * t) 1) ?_
          refine va_sld hx hb hX hbl hbA hS (i := (nI ((6 * t) + 1))) (vp_in_nI (by omega) (by omega)) d_La_law_745 ?_
          refine aw_ti (y := nI j) (by rw [nI_clamp (by omega)]; exact hc0.symm) ?_
          refine lv_aload_n hx hb d_La_law_746 rfl (lv_at hl 1 rfl) ?_
          refine lv_iload hx hb d_La_law_747 (lv_at hl 5 rfl) ?_
          refine lv_iconst (v := nI 2) hx hb d_La_law_749 (by decide +kernel) ?_
          refine lv_iadd hx hb d_La_law_750 ?_
          refine aw_ti (nI_add (6 * t) 2) ?_
          refine va_sld hx hb hX hbl hbA hS (i := (nI ((6 * t) + 2))) (vp_in_nI (by omega) (by omega)) d_La_law_751 ?_
          refine aw_ti (y := s2) (by rw [nI_clamp (by omega)]; exact hs2.symm) ?_
          refine lv_i2l hx hb d_La_law_752 rfl ?_
          refine ag_topl (fun y390 ey390 => ?_)
          refine lv_bipush (v := nI 32) hx hb d_La_law_753 (by decide +kernel) ?_
          refine lv_lshl hx hb d_La_law_755 rfl ?_
          refine ag_topl (fun y391 ey391 => ?_)
          refine lv_aload_n hx hb d_La_law_756 rfl (lv_at hl 1 rfl) ?_
          refine lv_iload hx hb d_La_law_757 (lv_at hl 5 rfl) ?_
          refine lv_iconst (v := nI 3) hx hb d_La_law_759 (by decide +kernel) ?_
          refine lv_iadd hx hb d_La_law_760 ?_
          refine aw_ti (nI_add (6 * t) 3) ?_
          refine va_sld hx hb hX hbl hbA hS (i := (nI ((6 * t) + 3))) (vp_in_nI (by omega) (by omega)) d_La_law_761 ?_
          refine aw_ti (y := s3) (by rw [nI_clamp (by omega)]; exact hs3.symm) ?_
          refine lv_i2l hx hb d_La_law_762 rfl ?_
          refine ag_topl (fun y392 ey392 => ?_)
          refine lv_ldc2 (v := 4294967295) hx hb hown (hG _ gw_13_3) d_La_law_763 ?_
          refine lv_land hx hb d_La_law_766 ?_
          refine ag_topl (fun y393 ey393 => ?_)
          refine lv_lor hx hb d_La_law_767 ?_
          refine ag_topl (fun y394 ey394 => ?_)
          obtain ⟨_, he395⟩ := zr_M0 hSh
          refine va_callv (va_runV (As := [.int (nI j), .long y394]) (rest := []) ⟨hx, hb, hml, hown, hG⟩ (k_Mo_seek1V l D g ad N0 zG zO zX388 zY389 zA zB zM zI zL zK zN zF zQ j y394 hj (by omega)) (aw_wV 2 hG gw_12_45 gw_12_42 gw_0_10 gw_12_43 gw_12_44 rfl rfl hd_Mo_seek ⟨Nat.le_of_ble_eq_true rfl, Nat.le_of_ble_eq_true rfl⟩) (ag_qV (va_recv hK hP rfl he395) hP hD hSh hU hS) rfl rfl hl.1 rfl (lv_room (Nat.le_of_ble_eq_true rfl)) d_La_law_768 ⟨by omega, by omega⟩) hS (fun _ _ h => h) (fun _ h => h) ?_
          clear hP hD hSh hS he395
          intro u8 t8 H locs ht _ _ hB _ _ hS
          obtain ⟨L, hP, hD, hSh⟩ := hB
          rw [ht] at hP
          clear ht
          obtain ⟨zI396, ezI396⟩ : ∃ z : Nat → Nat → Int32, v_Mo_seek1V_zI zI zL j y394 = z := ⟨_, rfl⟩
          rw [ezI396] at hSh
          obtain ⟨zL397, ezL397⟩ : ∃ z : Nat → Nat → Int64, v_Mo_seek1V_zL zI zL j y394 = z := ⟨_, rfl⟩
          rw [ezL397] at hSh
          refine lv_goto (tgt := 854) hx hb d_La_law_771 (by decide) ?_
          refine lv_iinc (k := 5) (v := nI (6 * t + 6)) hx hb d_La_law_854 hl rfl (aw_inc (6 * t) 6 6 (by decide +kernel)) (by decide) rfl (fun ls hl => ?_)
          have hl : lv_has ls 8 [(4, .int (nI (6 * t + 6))), (5, .int (nI 0)), (0, .ref b), (1, .ref (aw_r ad 0)), (2, .ref (aw_m ad 0)), (3, .ref (aw_o ad))] := hl
          refine lv_goto (tgt := 23) hx hb d_La_law_857 (by decide) ?_
          have hl := lv_sub hl (l' := [(0, .ref b), (1, .ref (aw_r ad 0)), (2, .ref (aw_m ad 0)), (3, .ref (aw_o ad)), (4, .int (nI (6 * t + 6)))]) [2, 3, 4, 5, 0] rfl
          refine W.widen (k := 85 + (t + 1)) (n := 1246 + 6 * (t + 1)) (by omega) (by omega) ?_
          have hR : az_R zG zO zX388 zY389 zA zB zM zI396 zL397 := by
            subst ezL397 ezI396 ey394 ey393 ey392 ey391 ey390 ezY389 ezX388 ey386 ey385 ey384 ey383 ey382
            exact r_seek1 hR hj hs
          exact ih (t + 1) zG zO zX388 zY389 zA zB zM zI396 zL397 zK zN (nI 0) zQ _ _ L ls (by omega) hP hD hSh hR hS (by first | exact hl | simpa [Nat.mul_add] using hl)
        · refine lv_aload_n hx hb d_La_law_705 rfl (lv_at hl 1 rfl) ?_
          refine lv_aload_n hx hb d_La_law_706 rfl (lv_at hl 0 rfl) ?_
          refine lv_iload hx hb d_La_law_707 (lv_at hl 4 rfl) ?_
          refine lv_iconst (v := nI 1) hx hb d_La_law_709 (by decide +kernel) ?_
          refine lv_iadd hx hb d_La_law_710 ?_
          refine aw_ti (nI_add (6 * t) 1) ?_
          refine va_sld hx hb hX hbl hbA hS (i := (nI ((6 * t) + 1))) (vp_in_nI (by omega) (by omega)) d_La_law_711 ?_
          refine aw_ti (y := nI j) (by rw [nI_clamp (by omega)]; exact hc0.symm) ?_
          refine lv_aload_n hx hb d_La_law_712 rfl (lv_at hl 0 rfl) ?_
          refine lv_iload hx hb d_La_law_713 (lv_at hl 4 rfl) ?_
          refine lv_iconst (v := nI 2) hx hb d_La_law_715 (by decide +kernel) ?_
          refine lv_iadd hx hb d_La_law_716 ?_
          refine aw_ti (nI_add (6 * t) 2) ?_
          refine va_sld hx hb hX hbl hbA hS (i := (nI ((6 * t) + 2))) (vp_in_nI (by omega) (by omega)) d_La_law_717 ?_
          refine aw_ti (y := s2) (by rw [nI_clamp (by omega)]; exact hs2.symm) ?_
          refine lv_i2l hx hb d_La_law_718 rfl ?_
          refine ag_topl (fun y398 ey398 => ?_)
          refine lv_bipush (v := nI 32) hx hb d_La_law_719 (by decide +kernel) ?_
          refine lv_lshl hx hb d_La_law_721 rfl ?_
          refine ag_topl (fun y399 ey399 => ?_)
          refine lv_aload_n hx hb d_La_law_722 rfl (lv_at hl 0 rfl) ?_
          refine lv_iload hx hb d_La_law_723 (lv_at hl 4 rfl) ?_
          refine lv_iconst (v := nI 3) hx hb d_La_law_725 (by decide +kernel) ?_
          refine lv_iadd hx hb d_La_law_726 ?_
          refine aw_ti (nI_add (6 * t) 3) ?_
          refine va_sld hx hb hX hbl hbA hS (i := (nI ((6 * t) + 3))) (vp_in_nI (by omega) (by omega)) d_La_law_727 ?_
          refine aw_ti (y := s3) (by rw [nI_clamp (by omega)]; exact hs3.symm) ?_
          refine lv_i2l hx hb d_La_law_728 rfl ?_
          refine ag_topl (fun y400 ey400 => ?_)
          refine lv_ldc2 (v := 4294967295) hx hb hown (hG _ gw_13_3) d_La_law_729 ?_
          refine lv_land hx hb d_La_law_732 ?_
          refine ag_topl (fun y401 ey401 => ?_)
          refine lv_lor hx hb d_La_law_733 ?_
          refine ag_topl (fun y402 ey402 => ?_)
          refine va_calli (vx_runSW (As := [.ref (aw_r ad 0), .int (nI j), .long y402]) (rest := []) ⟨hx, hb, hml, hown, hG⟩ (k_La_seekXsV l hst D g ad N0 zG zO zX zY zA zB zM zI zL zK zN zF zQ j y402 hj (by omega)) (aw_wW 3 hG gw_8_26 gw_8_24 gw_0_0 gw_8_25 rfl rfl hd_La_seek ⟨Nat.le_of_ble_eq_true rfl, Nat.le_of_ble_eq_true rfl⟩) (ag_qS hP hD hSh hU hS) rfl rfl hl.1 rfl (lv_room (Nat.le_of_ble_eq_true rfl)) d_La_law_734 ⟨by omega, by omega⟩) hS (fun _ _ h => h) (fun _ h => h) ?_
          clear hP hD hSh hS
          intro x403 u8 t8 H locs ht _ ex403 hB _ _ hS
          obtain ⟨L, hP, hD, hSh⟩ := hB
          rw [ht] at hP
          clear ht
          subst ex403
          refine lv_istore hx hb d_La_law_737 hl (by decide) rfl (fun ls hl => ?_)
          have hl : lv_has ls 8 [(5, .int (nI 2)), (0, .ref b), (1, .ref (aw_r ad 0)), (2, .ref (aw_m ad 0)), (3, .ref (aw_o ad)), (4, .int (nI (6 * t)))] := hl
          refine lv_aload_n hx hb d_La_law_739 rfl (lv_at hl 3 rfl) ?_
          refine lv_aload_n hx hb d_La_law_740 rfl (lv_at hl 1 rfl) ?_
          refine lv_iload hx hb d_La_law_741 (lv_at hl 5 rfl) ?_
          refine lv_iconst (v := nI 1) hx hb d_La_law_743 (by decide +kernel) ?_
          refine lv_iadd hx hb d_La_law_744 ?_
          refine aw_ti (nI_add (6 * t) 1) ?_
          refine va_sld hx hb hX hbl hbA hS (i := (nI ((6 * t) + 1))) (vp_in_nI (by omega) (by omega)) d_La_law_745 ?_
          refine aw_ti (y := nI j) (by rw [nI_clamp (by omega)]; exact hc0.symm) ?_
          refine lv_aload_n hx hb d_La_law_746 rfl (lv_at hl 1 rfl) ?_
          refine lv_iload hx hb d_La_law_747 (lv_at hl 5 rfl) ?_
          refine lv_iconst (v := nI 2) hx hb d_La_law_749 (by decide +kernel) ?_
          refine lv_iadd hx hb d_La_law_750 ?_
          refine aw_ti (nI_add (6 * t) 2) ?_
          refine va_sld hx hb hX hbl hbA hS (i := (nI ((6 * t) + 2))) (vp_in_nI (by omega) (by omega)) d_La_law_751 ?_
          refine aw_ti (y := s2) (by rw [nI_clamp (by omega)]; exact hs2.symm) ?_
          refine lv_i2l hx hb d_La_law_752 rfl ?_
          refine ag_topl (fun y404 ey404 => ?_)
          refine lv_bipush (v := nI 32) hx hb d_La_law_753 (by decide +kernel) ?_
          refine lv_lshl hx hb d_La_law_755 rfl ?_
          refine ag_topl (fun y405 ey405 => ?_)
          refine lv_aload_n hx hb d_La_law_756 rfl (lv_at hl 1 rfl) ?_
          refine lv_iload hx hb d_La_law_757 (lv_at hl 5 rfl) ?_
          refine lv_iconst (v := nI 3) hx hb d_La_law_759 (by decide +kernel) ?_
          refine lv_iadd hx hb d_La_law_760 ?_
          refine aw_ti (nI_add (6 * t) 3) ?_
          refine va_sld hx hb hX hbl hbA hS (i := (nI ((6 * t) + 3))) (vp_in_nI (by omega) (by omega)) d_La_law_761 ?_
          refine aw_ti (y := s3) (by rw [nI_clamp (by omega)]; exact hs3.symm) ?_
          refine lv_i2l hx hb d_La_law_762 rfl ?_
          refine ag_topl (fun y406 ey406 => ?_)
          refine lv_ldc2 (v := 4294967295) hx hb hown (hG _ gw_13_3) d_La_law_763 ?_
          refine lv_land hx hb d_La_law_766 ?_
          refine ag_topl (fun y407 ey407 => ?_)
          refine lv_lor hx hb d_La_law_767 ?_
          refine ag_topl (fun y408 ey408 => ?_)
          obtain ⟨_, he409⟩ := zr_M0 hSh
          refine va_callv (va_runV (As := [.int (nI j), .long y408]) (rest := []) ⟨hx, hb, hml, hown, hG⟩ (k_Mo_seekXsV l D g ad N0 zG zO zX zY zA zB zM zI zL zK zN zF zQ j y408 hj (by omega)) (aw_wV 2 hG gw_12_45 gw_12_42 gw_0_10 gw_12_43 gw_12_44 rfl rfl hd_Mo_seek ⟨Nat.le_of_ble_eq_true rfl, Nat.le_of_ble_eq_true rfl⟩) (ag_qV (va_recv hK hP rfl he409) hP hD hSh hU hS) rfl rfl hl.1 rfl (lv_room (Nat.le_of_ble_eq_true rfl)) d_La_law_768 ⟨by omega, by omega⟩) hS (fun _ _ h => h) (fun _ h => h) ?_
          clear hP hD hSh hS he409
          intro u8 t8 H locs ht _ _ hB _ _ hS
          obtain ⟨L, hP, hD, hSh⟩ := hB
          rw [ht] at hP
          clear ht
          refine lv_goto (tgt := 854) hx hb d_La_law_771 (by decide) ?_
          refine lv_iinc (k := 5) (v := nI (6 * t + 6)) hx hb d_La_law_854 hl rfl (aw_inc (6 * t) 6 6 (by decide +kernel)) (by decide) rfl (fun ls hl => ?_)
          have hl : lv_has ls 8 [(4, .int (nI (6 * t + 6))), (5, .int (nI 2)), (0, .ref b), (1, .ref (aw_r ad 0)), (2, .ref (aw_m ad 0)), (3, .ref (aw_o ad))] := hl
          refine lv_goto (tgt := 23) hx hb d_La_law_857 (by decide) ?_
          have hl := lv_sub hl (l' := [(0, .ref b), (1, .ref (aw_r ad 0)), (2, .ref (aw_m ad 0)), (3, .ref (aw_o ad)), (4, .int (nI (6 * t + 6)))]) [2, 3, 4, 5, 0] rfl
          refine W.widen (k := 85 + (t + 1)) (n := 1246 + 6 * (t + 1)) (by omega) (by omega) ?_
          exact ih (t + 1) zG zO zX zY zA zB zM zI zL zK zN (nI 2) zQ _ _ L ls (by omega) hP hD hSh hR hS (by first | exact hl | simpa [Nat.mul_add] using hl)
    · refine aw_ti (y := nI 11) (by rw [hs3]) ?_
      refine lv_tableIn (tgt := 774) (off := 734) hx hb d_La_law_40 (by decide +kernel) (by decide +kernel) (by decide +kernel) (by decide) ?_
      obtain ⟨c0, hc0⟩ : ∃ z : Int32, z = xs (6 * t + 1) := ⟨_, rfl⟩
      obtain ⟨fr, hfr⟩ : ∃ z : Int32, z = xs (6 * t + 2) := ⟨_, rfl⟩
      obtain ⟨m0, hm0⟩ : ∃ z : Int32, z = xs (6 * t + 3) := ⟨_, rfl⟩
      rcases aw_rng 4 (by decide) c0 with hc | ⟨j, hj, rfl⟩
      · refine lv_aload_n hx hb d_La_law_774 rfl (lv_at hl 1 rfl) ?_
        refine lv_aload_n hx hb d_La_law_775 rfl (lv_at hl 0 rfl) ?_
        refine lv_iload hx hb d_La_law_776 (lv_at hl 4 rfl) ?_
        refine lv_iconst (v := nI 1) hx hb d_La_law_778 (by decide +kernel) ?_
        refine lv_iadd hx hb d_La_law_779 ?_
        refine aw_ti (nI_add (6 * t) 1) ?_
        refine va_sld hx hb hX hbl hbA hS (i := (nI ((6 * t) + 1))) (vp_in_nI (by omega) (by omega)) d_La_law_780 ?_
        refine aw_ti (y := c0) (by rw [nI_clamp (by omega)]; exact hc0.symm) ?_
        refine lv_aload_n hx hb d_La_law_781 rfl (lv_at hl 0 rfl) ?_
        refine lv_iload hx hb d_La_law_782 (lv_at hl 4 rfl) ?_
        refine lv_iconst (v := nI 2) hx hb d_La_law_784 (by decide +kernel) ?_
        refine lv_iadd hx hb d_La_law_785 ?_
        refine aw_ti (nI_add (6 * t) 2) ?_
        refine va_sld hx hb hX hbl hbA hS (i := (nI ((6 * t) + 2))) (vp_in_nI (by omega) (by omega)) d_La_law_786 ?_
        refine aw_ti (y := fr) (by rw [nI_clamp (by omega)]; exact hfr.symm) ?_
        refine lv_aload_n hx hb d_La_law_787 rfl (lv_at hl 0 rfl) ?_
        refine lv_iload hx hb d_La_law_788 (lv_at hl 4 rfl) ?_
        refine lv_iconst (v := nI 3) hx hb d_La_law_790 (by decide +kernel) ?_
        refine lv_iadd hx hb d_La_law_791 ?_
        refine aw_ti (nI_add (6 * t) 3) ?_
        refine va_sld hx hb hX hbl hbA hS (i := (nI ((6 * t) + 3))) (vp_in_nI (by omega) (by omega)) d_La_law_792 ?_
        refine aw_ti (y := m0) (by rw [nI_clamp (by omega)]; exact hm0.symm) ?_
        refine lv_aload_n hx hb d_La_law_793 rfl (lv_at hl 3 rfl) ?_
        refine va_calli (vx_runSW (As := [.ref (aw_r ad 0), .int c0, .int fr, .int m0, .ref (aw_o ad)]) (rest := []) ⟨hx, hb, hml, hown, hG⟩ (k_La_takeXcV l hst D g ad N0 zG zO zX zY zA zB zM zI zL zK zN zF zQ c0 fr m0 hc) (aw_wW 5 hG gw_8_40 gw_8_38 gw_0_0 gw_8_39 rfl rfl hd_La_take ⟨Nat.le_of_ble_eq_true rfl, Nat.le_of_ble_eq_true rfl⟩) (ag_qS hP hD hSh hU hS) rfl rfl hl.1 rfl (lv_room (Nat.le_of_ble_eq_true rfl)) d_La_law_794 ⟨by omega, by omega⟩) hS (fun _ _ h => h) (fun _ h => h) ?_
        clear hP hD hSh hS
        intro x410 u8 t8 H locs ht _ ex410 hB _ _ hS
        obtain ⟨L, hP, hD, hSh⟩ := hB
        rw [ht] at hP
        clear ht
        subst ex410
        refine lv_istore hx hb d_La_law_797 hl (by decide) rfl (fun ls hl => ?_)
        have hl : lv_has ls 8 [(5, .int (nI 1)), (0, .ref b), (1, .ref (aw_r ad 0)), (2, .ref (aw_m ad 0)), (3, .ref (aw_o ad)), (4, .int (nI (6 * t)))] := hl
        refine lv_aload_n hx hb d_La_law_799 rfl (lv_at hl 3 rfl) ?_
        refine lv_aload_n hx hb d_La_law_800 rfl (lv_at hl 1 rfl) ?_
        refine lv_iload hx hb d_La_law_801 (lv_at hl 5 rfl) ?_
        refine lv_iconst (v := nI 1) hx hb d_La_law_803 (by decide +kernel) ?_
        refine lv_iadd hx hb d_La_law_804 ?_
        refine aw_ti (nI_add (6 * t) 1) ?_
        refine va_sld hx hb hX hbl hbA hS (i := (nI ((6 * t) + 1))) (vp_in_nI (by omega) (by omega)) d_La_law_805 ?_
        refine aw_ti (y := c0) (by rw [nI_clamp (by omega)]; exact hc0.symm) ?_
        refine lv_aload_n hx hb d_La_law_806 rfl (lv_at hl 1 rfl) ?_
        refine lv_iload hx hb d_La_law_807 (lv_at hl 5 rfl) ?_
        refine lv_iconst (v := nI 2) hx hb d_La_law_809 (by decide +kernel) ?_
        refine lv_iadd hx hb d_La_law_810 ?_
        refine aw_ti (nI_add (6 * t) 2) ?_
        refine va_sld hx hb hX hbl hbA hS (i := (nI ((6 * t) + 2))) (vp_in_nI (by omega) (by omega)) d_La_law_811 ?_
        refine aw_ti (y := fr) (by rw [nI_clamp (by omega)]; exact hfr.symm) ?_
        refine lv_aload_n hx hb d_La_law_812 rfl (lv_at hl 1 rfl) ?_
        refine lv_iload hx hb d_La_law_813 (lv_at hl 5 rfl) ?_
        refine lv_iconst (v := nI 3) hx hb d_La_law_815 (by decide +kernel) ?_
        refine lv_iadd hx hb d_La_law_816 ?_
        refine aw_ti (nI_add (6 * t) 3) ?_
        refine va_sld hx hb hX hbl hbA hS (i := (nI ((6 * t) + 3))) (vp_in_nI (by omega) (by omega)) d_La_law_817 ?_
        refine aw_ti (y := m0) (by rw [nI_clamp (by omega)]; exact hm0.symm) ?_
        obtain ⟨_, he411⟩ := zr_M0 hSh
        refine va_calli (va_runV (As := [.int c0, .int fr, .int m0]) (rest := []) ⟨hx, hb, hml, hown, hG⟩ (k_Mo_takeXcV l D g ad N0 zG zO zX zY zA zB zM zI zL zK zN zF zQ c0 fr m0 hc) (aw_wV 3 hG gw_12_49 gw_12_46 gw_0_10 gw_12_47 gw_12_48 rfl rfl hd_Mo_take ⟨Nat.le_of_ble_eq_true rfl, Nat.le_of_ble_eq_true rfl⟩) (ag_qV (va_recv hK hP rfl he411) hP hD hSh hU hS) rfl rfl hl.1 rfl (lv_room (Nat.le_of_ble_eq_true rfl)) d_La_law_818 ⟨by omega, by omega⟩) hS (fun _ _ h => h) (fun _ h => h) ?_
        clear hP hD hSh hS he411
        intro x412 u8 t8 H locs ht _ ex412 hB _ _ hS
        obtain ⟨L, hP, hD, hSh⟩ := hB
        rw [ht] at hP
        clear ht
        have ex412 := ex412.symm
        refine lv_istore hx hb d_La_law_821 hl (by decide) rfl (fun ls hl => ?_)
        have hl : lv_has ls 8 [(6, .int x412), (5, .int (nI 1)), (0, .ref b), (1, .ref (aw_r ad 0)), (2, .ref (aw_m ad 0)), (3, .ref (aw_o ad)), (4, .int (nI (6 * t)))] := hl
        refine lv_goto (tgt := 854) hx hb d_La_law_823 (by decide) ?_
        refine lv_iinc (k := 6) (v := nI (6 * t + 6)) hx hb d_La_law_854 hl rfl (aw_inc (6 * t) 6 6 (by decide +kernel)) (by decide) rfl (fun ls hl => ?_)
        have hl : lv_has ls 8 [(4, .int (nI (6 * t + 6))), (6, .int x412), (5, .int (nI 1)), (0, .ref b), (1, .ref (aw_r ad 0)), (2, .ref (aw_m ad 0)), (3, .ref (aw_o ad))] := hl
        refine lv_goto (tgt := 23) hx hb d_La_law_857 (by decide) ?_
        have hl := lv_sub hl (l' := [(0, .ref b), (1, .ref (aw_r ad 0)), (2, .ref (aw_m ad 0)), (3, .ref (aw_o ad)), (4, .int (nI (6 * t + 6)))]) [3, 4, 5, 6, 0] rfl
        refine W.widen (k := 85 + (t + 1)) (n := 1246 + 6 * (t + 1)) (by omega) (by omega) ?_
        exact ih (t + 1) zG zO zX zY zA zB zM zI zL zK zN (nI 1) zQ _ _ L ls (by omega) hP hD hSh hR hS (by first | exact hl | simpa [Nat.mul_add] using hl)
      · have hgj := hSh.2.2.2.2.1 j hj
        have hq1 : (zM j).1 = (zG j).1 := by rw [hR.1 j hj]
        have hq2 : (zM j).2 = (zG j).2 := by rw [hR.1 j hj]
        rcases aw_buf fr m0 with hi | rfl | ⟨k, mm, rfl, rfl, h0, hk⟩
        · have hi2 := aw_bp hi
          refine lv_aload_n hx hb d_La_law_774 rfl (lv_at hl 1 rfl) ?_
          refine lv_aload_n hx hb d_La_law_775 rfl (lv_at hl 0 rfl) ?_
          refine lv_iload hx hb d_La_law_776 (lv_at hl 4 rfl) ?_
          refine lv_iconst (v := nI 1) hx hb d_La_law_778 (by decide +kernel) ?_
          refine lv_iadd hx hb d_La_law_779 ?_
          refine aw_ti (nI_add (6 * t) 1) ?_
          refine va_sld hx hb hX hbl hbA hS (i := (nI ((6 * t) + 1))) (vp_in_nI (by omega) (by omega)) d_La_law_780 ?_
          refine aw_ti (y := nI j) (by rw [nI_clamp (by omega)]; exact hc0.symm) ?_
          refine lv_aload_n hx hb d_La_law_781 rfl (lv_at hl 0 rfl) ?_
          refine lv_iload hx hb d_La_law_782 (lv_at hl 4 rfl) ?_
          refine lv_iconst (v := nI 2) hx hb d_La_law_784 (by decide +kernel) ?_
          refine lv_iadd hx hb d_La_law_785 ?_
          refine aw_ti (nI_add (6 * t) 2) ?_
          refine va_sld hx hb hX hbl hbA hS (i := (nI ((6 * t) + 2))) (vp_in_nI (by omega) (by omega)) d_La_law_786 ?_
          refine aw_ti (y := fr) (by rw [nI_clamp (by omega)]; exact hfr.symm) ?_
          refine lv_aload_n hx hb d_La_law_787 rfl (lv_at hl 0 rfl) ?_
          refine lv_iload hx hb d_La_law_788 (lv_at hl 4 rfl) ?_
          refine lv_iconst (v := nI 3) hx hb d_La_law_790 (by decide +kernel) ?_
          refine lv_iadd hx hb d_La_law_791 ?_
          refine aw_ti (nI_add (6 * t) 3) ?_
          refine va_sld hx hb hX hbl hbA hS (i := (nI ((6 * t) + 3))) (vp_in_nI (by omega) (by omega)) d_La_law_792 ?_
          refine aw_ti (y := m0) (by rw [nI_clamp (by omega)]; exact hm0.symm) ?_
          refine lv_aload_n hx hb d_La_law_793 rfl (lv_at hl 3 rfl) ?_
          refine va_calli (vx_runSW (As := [.ref (aw_r ad 0), .int (nI j), .int fr, .int m0, .ref (aw_o ad)]) (rest := []) ⟨hx, hb, hml, hown, hG⟩ (k_La_takeXbV l hst D g ad N0 zG zO zX zY zA zB zM zI zL zK zN zF zQ j fr m0 hj hi) (aw_wW 5 hG gw_8_40 gw_8_38 gw_0_0 gw_8_39 rfl rfl hd_La_take ⟨Nat.le_of_ble_eq_true rfl, Nat.le_of_ble_eq_true rfl⟩) (ag_qS hP hD hSh hU hS) rfl rfl hl.1 rfl (lv_room (Nat.le_of_ble_eq_true rfl)) d_La_law_794 ⟨by omega, by omega⟩) hS (fun _ _ h => h) (fun _ h => h) ?_
          clear hP hD hSh hS
          intro x413 u8 t8 H locs ht _ ex413 hB _ _ hS
          obtain ⟨L, hP, hD, hSh⟩ := hB
          rw [ht] at hP
          clear ht
          subst ex413
          refine lv_istore hx hb d_La_law_797 hl (by decide) rfl (fun ls hl => ?_)
          have hl : lv_has ls 8 [(5, .int (nI 1)), (0, .ref b), (1, .ref (aw_r ad 0)), (2, .ref (aw_m ad 0)), (3, .ref (aw_o ad)), (4, .int (nI (6 * t)))] := hl
          refine lv_aload_n hx hb d_La_law_799 rfl (lv_at hl 3 rfl) ?_
          refine lv_aload_n hx hb d_La_law_800 rfl (lv_at hl 1 rfl) ?_
          refine lv_iload hx hb d_La_law_801 (lv_at hl 5 rfl) ?_
          refine lv_iconst (v := nI 1) hx hb d_La_law_803 (by decide +kernel) ?_
          refine lv_iadd hx hb d_La_law_804 ?_
          refine aw_ti (nI_add (6 * t) 1) ?_
          refine va_sld hx hb hX hbl hbA hS (i := (nI ((6 * t) + 1))) (vp_in_nI (by omega) (by omega)) d_La_law_805 ?_
          refine aw_ti (y := nI j) (by rw [nI_clamp (by omega)]; exact hc0.symm) ?_
          refine lv_aload_n hx hb d_La_law_806 rfl (lv_at hl 1 rfl) ?_
          refine lv_iload hx hb d_La_law_807 (lv_at hl 5 rfl) ?_
          refine lv_iconst (v := nI 2) hx hb d_La_law_809 (by decide +kernel) ?_
          refine lv_iadd hx hb d_La_law_810 ?_
          refine aw_ti (nI_add (6 * t) 2) ?_
          refine va_sld hx hb hX hbl hbA hS (i := (nI ((6 * t) + 2))) (vp_in_nI (by omega) (by omega)) d_La_law_811 ?_
          refine aw_ti (y := fr) (by rw [nI_clamp (by omega)]; exact hfr.symm) ?_
          refine lv_aload_n hx hb d_La_law_812 rfl (lv_at hl 1 rfl) ?_
          refine lv_iload hx hb d_La_law_813 (lv_at hl 5 rfl) ?_
          refine lv_iconst (v := nI 3) hx hb d_La_law_815 (by decide +kernel) ?_
          refine lv_iadd hx hb d_La_law_816 ?_
          refine aw_ti (nI_add (6 * t) 3) ?_
          refine va_sld hx hb hX hbl hbA hS (i := (nI ((6 * t) + 3))) (vp_in_nI (by omega) (by omega)) d_La_law_817 ?_
          refine aw_ti (y := m0) (by rw [nI_clamp (by omega)]; exact hm0.symm) ?_
          obtain ⟨_, he414⟩ := zr_M0 hSh
          refine va_calli (va_runV (As := [.int (nI j), .int fr, .int m0]) (rest := []) ⟨hx, hb, hml, hown, hG⟩ (k_Mo_takeXbV l D g ad N0 zG zO zX zY zA zB zM zI zL zK zN zF zQ j fr m0 hj hi2) (aw_wV 3 hG gw_12_49 gw_12_46 gw_0_10 gw_12_47 gw_12_48 rfl rfl hd_Mo_take ⟨Nat.le_of_ble_eq_true rfl, Nat.le_of_ble_eq_true rfl⟩) (ag_qV (va_recv hK hP rfl he414) hP hD hSh hU hS) rfl rfl hl.1 rfl (lv_room (Nat.le_of_ble_eq_true rfl)) d_La_law_818 ⟨by omega, by omega⟩) hS (fun _ _ h => h) (fun _ h => h) ?_
          clear hP hD hSh hS he414
          intro x415 u8 t8 H locs ht _ ex415 hB _ _ hS
          obtain ⟨L, hP, hD, hSh⟩ := hB
          rw [ht] at hP
          clear ht
          have ex415 := ex415.symm
          refine lv_istore hx hb d_La_law_821 hl (by decide) rfl (fun ls hl => ?_)
          have hl : lv_has ls 8 [(6, .int x415), (5, .int (nI 1)), (0, .ref b), (1, .ref (aw_r ad 0)), (2, .ref (aw_m ad 0)), (3, .ref (aw_o ad)), (4, .int (nI (6 * t)))] := hl
          refine lv_goto (tgt := 854) hx hb d_La_law_823 (by decide) ?_
          refine lv_iinc (k := 6) (v := nI (6 * t + 6)) hx hb d_La_law_854 hl rfl (aw_inc (6 * t) 6 6 (by decide +kernel)) (by decide) rfl (fun ls hl => ?_)
          have hl : lv_has ls 8 [(4, .int (nI (6 * t + 6))), (6, .int x415), (5, .int (nI 1)), (0, .ref b), (1, .ref (aw_r ad 0)), (2, .ref (aw_m ad 0)), (3, .ref (aw_o ad))] := hl
          refine lv_goto (tgt := 23) hx hb d_La_law_857 (by decide) ?_
          have hl := lv_sub hl (l' := [(0, .ref b), (1, .ref (aw_r ad 0)), (2, .ref (aw_m ad 0)), (3, .ref (aw_o ad)), (4, .int (nI (6 * t + 6)))]) [3, 4, 5, 6, 0] rfl
          refine W.widen (k := 85 + (t + 1)) (n := 1246 + 6 * (t + 1)) (by omega) (by omega) ?_
          exact ih (t + 1) zG zO zX zY zA zB zM zI zL zK zN (nI 1) zQ _ _ L ls (by omega) hP hD hSh hR hS (by first | exact hl | simpa [Nat.mul_add] using hl)
        · rcases aw_p0f fr with hi | ⟨k, rfl, hk⟩
          · by_cases hs : (zG j).1 = 3 ∧ (zG j).2 = 5
            · refine lv_aload_n hx hb d_La_law_774 rfl (lv_at hl 1 rfl) ?_
              refine lv_aload_n hx hb d_La_law_775 rfl (lv_at hl 0 rfl) ?_
              refine lv_iload hx hb d_La_law_776 (lv_at hl 4 rfl) ?_
              refine lv_iconst (v := nI 1) hx hb d_La_law_778 (by decide +kernel) ?_
              refine lv_iadd hx hb d_La_law_779 ?_
              refine aw_ti (nI_add (6 * t) 1) ?_
              refine va_sld hx hb hX hbl hbA hS (i := (nI ((6 * t) + 1))) (vp_in_nI (by omega) (by omega)) d_La_law_780 ?_
              refine aw_ti (y := nI j) (by rw [nI_clamp (by omega)]; exact hc0.symm) ?_
              refine lv_aload_n hx hb d_La_law_781 rfl (lv_at hl 0 rfl) ?_
              refine lv_iload hx hb d_La_law_782 (lv_at hl 4 rfl) ?_
              refine lv_iconst (v := nI 2) hx hb d_La_law_784 (by decide +kernel) ?_
              refine lv_iadd hx hb d_La_law_785 ?_
              refine aw_ti (nI_add (6 * t) 2) ?_
              refine va_sld hx hb hX hbl hbA hS (i := (nI ((6 * t) + 2))) (vp_in_nI (by omega) (by omega)) d_La_law_786 ?_
              refine aw_ti (y := fr) (by rw [nI_clamp (by omega)]; exact hfr.symm) ?_
              refine lv_aload_n hx hb d_La_law_787 rfl (lv_at hl 0 rfl) ?_
              refine lv_iload hx hb d_La_law_788 (lv_at hl 4 rfl) ?_
              refine lv_iconst (v := nI 3) hx hb d_La_law_790 (by decide +kernel) ?_
              refine lv_iadd hx hb d_La_law_791 ?_
              refine aw_ti (nI_add (6 * t) 3) ?_
              refine va_sld hx hb hX hbl hbA hS (i := (nI ((6 * t) + 3))) (vp_in_nI (by omega) (by omega)) d_La_law_792 ?_
              refine aw_ti (y := nI 0) (by rw [nI_clamp (by omega)]; exact hm0.symm) ?_
              refine lv_aload_n hx hb d_La_law_793 rfl (lv_at hl 3 rfl) ?_
              refine va_calli (vx_runSW (As := [.ref (aw_r ad 0), .int (nI j), .int fr, .int (nI 0), .ref (aw_o ad)]) (rest := []) ⟨hx, hb, hml, hown, hG⟩ (k_La_take10V l hst D g ad N0 zG zO zX zY zA zB zM zI zL zK zN zF zQ j fr hj (by omega)) (aw_wW 5 hG gw_8_40 gw_8_38 gw_0_0 gw_8_39 rfl rfl hd_La_take ⟨Nat.le_of_ble_eq_true rfl, Nat.le_of_ble_eq_true rfl⟩) (ag_qS hP hD hSh hU hS) rfl rfl hl.1 rfl (lv_room (Nat.le_of_ble_eq_true rfl)) d_La_law_794 ⟨by omega, by omega⟩) hS (fun _ _ h => h) (fun _ h => h) ?_
              clear hP hD hSh hS
              intro x416 u8 t8 H locs ht _ ex416 hB _ _ hS
              obtain ⟨L, hP, hD, hSh⟩ := hB
              rw [ht] at hP
              clear ht
              subst ex416
              obtain ⟨zY417, ezY417⟩ : ∃ z : Nat → Nat → Int32, v_La_take10V_zY zY j = z := ⟨_, rfl⟩
              rw [ezY417] at hSh
              obtain ⟨zQ418, ezQ418⟩ : ∃ z : Int64, v_La_take10V_zQ zY j = z := ⟨_, rfl⟩
              rw [ezQ418] at hSh
              refine lv_istore hx hb d_La_law_797 hl (by decide) rfl (fun ls hl => ?_)
              have hl : lv_has ls 8 [(5, .int (nI 0)), (0, .ref b), (1, .ref (aw_r ad 0)), (2, .ref (aw_m ad 0)), (3, .ref (aw_o ad)), (4, .int (nI (6 * t)))] := hl
              refine lv_aload_n hx hb d_La_law_799 rfl (lv_at hl 3 rfl) ?_
              refine lv_aload_n hx hb d_La_law_800 rfl (lv_at hl 1 rfl) ?_
              refine lv_iload hx hb d_La_law_801 (lv_at hl 5 rfl) ?_
              refine lv_iconst (v := nI 1) hx hb d_La_law_803 (by decide +kernel) ?_
              refine lv_iadd hx hb d_La_law_804 ?_
              refine aw_ti (nI_add (6 * t) 1) ?_
              refine va_sld hx hb hX hbl hbA hS (i := (nI ((6 * t) + 1))) (vp_in_nI (by omega) (by omega)) d_La_law_805 ?_
              refine aw_ti (y := nI j) (by rw [nI_clamp (by omega)]; exact hc0.symm) ?_
              refine lv_aload_n hx hb d_La_law_806 rfl (lv_at hl 1 rfl) ?_
              refine lv_iload hx hb d_La_law_807 (lv_at hl 5 rfl) ?_
              refine lv_iconst (v := nI 2) hx hb d_La_law_809 (by decide +kernel) ?_
              refine lv_iadd hx hb d_La_law_810 ?_
              refine aw_ti (nI_add (6 * t) 2) ?_
              refine va_sld hx hb hX hbl hbA hS (i := (nI ((6 * t) + 2))) (vp_in_nI (by omega) (by omega)) d_La_law_811 ?_
              refine aw_ti (y := fr) (by rw [nI_clamp (by omega)]; exact hfr.symm) ?_
              refine lv_aload_n hx hb d_La_law_812 rfl (lv_at hl 1 rfl) ?_
              refine lv_iload hx hb d_La_law_813 (lv_at hl 5 rfl) ?_
              refine lv_iconst (v := nI 3) hx hb d_La_law_815 (by decide +kernel) ?_
              refine lv_iadd hx hb d_La_law_816 ?_
              refine aw_ti (nI_add (6 * t) 3) ?_
              refine va_sld hx hb hX hbl hbA hS (i := (nI ((6 * t) + 3))) (vp_in_nI (by omega) (by omega)) d_La_law_817 ?_
              refine aw_ti (y := nI 0) (by rw [nI_clamp (by omega)]; exact hm0.symm) ?_
              obtain ⟨_, he419⟩ := zr_M0 hSh
              refine va_calli (va_runV (As := [.int (nI j), .int fr, .int (nI 0)]) (rest := []) ⟨hx, hb, hml, hown, hG⟩ (k_Mo_takeXbV l D g ad N0 zG zO zX zY417 zA zB zM zI zL zK zN zF zQ418 j fr (nI 0) hj hi) (aw_wV 3 hG gw_12_49 gw_12_46 gw_0_10 gw_12_47 gw_12_48 rfl rfl hd_Mo_take ⟨Nat.le_of_ble_eq_true rfl, Nat.le_of_ble_eq_true rfl⟩) (ag_qV (va_recv hK hP rfl he419) hP hD hSh hU hS) rfl rfl hl.1 rfl (lv_room (Nat.le_of_ble_eq_true rfl)) d_La_law_818 ⟨by omega, by omega⟩) hS (fun _ _ h => h) (fun _ h => h) ?_
              clear hP hD hSh hS he419
              intro x420 u8 t8 H locs ht _ ex420 hB _ _ hS
              obtain ⟨L, hP, hD, hSh⟩ := hB
              rw [ht] at hP
              clear ht
              have ex420 := ex420.symm
              refine lv_istore hx hb d_La_law_821 hl (by decide) rfl (fun ls hl => ?_)
              have hl : lv_has ls 8 [(6, .int x420), (5, .int (nI 0)), (0, .ref b), (1, .ref (aw_r ad 0)), (2, .ref (aw_m ad 0)), (3, .ref (aw_o ad)), (4, .int (nI (6 * t)))] := hl
              refine lv_goto (tgt := 854) hx hb d_La_law_823 (by decide) ?_
              refine lv_iinc (k := 6) (v := nI (6 * t + 6)) hx hb d_La_law_854 hl rfl (aw_inc (6 * t) 6 6 (by decide +kernel)) (by decide) rfl (fun ls hl => ?_)
              have hl : lv_has ls 8 [(4, .int (nI (6 * t + 6))), (6, .int x420), (5, .int (nI 0)), (0, .ref b), (1, .ref (aw_r ad 0)), (2, .ref (aw_m ad 0)), (3, .ref (aw_o ad))] := hl
              refine lv_goto (tgt := 23) hx hb d_La_law_857 (by decide) ?_
              have hl := lv_sub hl (l' := [(0, .ref b), (1, .ref (aw_r ad 0)), (2, .ref (aw_m ad 0)), (3, .ref (aw_o ad)), (4, .int (nI (6 * t + 6)))]) [3, 4, 5, 6, 0] rfl
              refine W.widen (k := 85 + (t + 1)) (n := 1246 + 6 * (t + 1)) (by omega) (by omega) ?_
              have hR : az_R zG zO zX zY417 zA zB zM zI zL := by
                subst ex420 ezQ418 ezY417
                exact r_take10_Xb hR hj hs
              exact ih (t + 1) zG zO zX zY417 zA zB zM zI zL zK zN (nI 1) zQ418 _ _ L ls (by omega) hP hD hSh hR hS (by first | exact hl | simpa [Nat.mul_add] using hl)
            · refine lv_aload_n hx hb d_La_law_774 rfl (lv_at hl 1 rfl) ?_
              refine lv_aload_n hx hb d_La_law_775 rfl (lv_at hl 0 rfl) ?_
              refine lv_iload hx hb d_La_law_776 (lv_at hl 4 rfl) ?_
              refine lv_iconst (v := nI 1) hx hb d_La_law_778 (by decide +kernel) ?_
              refine lv_iadd hx hb d_La_law_779 ?_
              refine aw_ti (nI_add (6 * t) 1) ?_
              refine va_sld hx hb hX hbl hbA hS (i := (nI ((6 * t) + 1))) (vp_in_nI (by omega) (by omega)) d_La_law_780 ?_
              refine aw_ti (y := nI j) (by rw [nI_clamp (by omega)]; exact hc0.symm) ?_
              refine lv_aload_n hx hb d_La_law_781 rfl (lv_at hl 0 rfl) ?_
              refine lv_iload hx hb d_La_law_782 (lv_at hl 4 rfl) ?_
              refine lv_iconst (v := nI 2) hx hb d_La_law_784 (by decide +kernel) ?_
              refine lv_iadd hx hb d_La_law_785 ?_
              refine aw_ti (nI_add (6 * t) 2) ?_
              refine va_sld hx hb hX hbl hbA hS (i := (nI ((6 * t) + 2))) (vp_in_nI (by omega) (by omega)) d_La_law_786 ?_
              refine aw_ti (y := fr) (by rw [nI_clamp (by omega)]; exact hfr.symm) ?_
              refine lv_aload_n hx hb d_La_law_787 rfl (lv_at hl 0 rfl) ?_
              refine lv_iload hx hb d_La_law_788 (lv_at hl 4 rfl) ?_
              refine lv_iconst (v := nI 3) hx hb d_La_law_790 (by decide +kernel) ?_
              refine lv_iadd hx hb d_La_law_791 ?_
              refine aw_ti (nI_add (6 * t) 3) ?_
              refine va_sld hx hb hX hbl hbA hS (i := (nI ((6 * t) + 3))) (vp_in_nI (by omega) (by omega)) d_La_law_792 ?_
              refine aw_ti (y := nI 0) (by rw [nI_clamp (by omega)]; exact hm0.symm) ?_
              refine lv_aload_n hx hb d_La_law_793 rfl (lv_at hl 3 rfl) ?_
              refine va_calli (vx_runSW (As := [.ref (aw_r ad 0), .int (nI j), .int fr, .int (nI 0), .ref (aw_o ad)]) (rest := []) ⟨hx, hb, hml, hown, hG⟩ (k_La_takeXs0V l hst D g ad N0 zG zO zX zY zA zB zM zI zL zK zN zF zQ j fr hj (by omega)) (aw_wW 5 hG gw_8_40 gw_8_38 gw_0_0 gw_8_39 rfl rfl hd_La_take ⟨Nat.le_of_ble_eq_true rfl, Nat.le_of_ble_eq_true rfl⟩) (ag_qS hP hD hSh hU hS) rfl rfl hl.1 rfl (lv_room (Nat.le_of_ble_eq_true rfl)) d_La_law_794 ⟨by omega, by omega⟩) hS (fun _ _ h => h) (fun _ h => h) ?_
              clear hP hD hSh hS
              intro x421 u8 t8 H locs ht _ ex421 hB _ _ hS
              obtain ⟨L, hP, hD, hSh⟩ := hB
              rw [ht] at hP
              clear ht
              subst ex421
              refine lv_istore hx hb d_La_law_797 hl (by decide) rfl (fun ls hl => ?_)
              have hl : lv_has ls 8 [(5, .int (nI 2)), (0, .ref b), (1, .ref (aw_r ad 0)), (2, .ref (aw_m ad 0)), (3, .ref (aw_o ad)), (4, .int (nI (6 * t)))] := hl
              refine lv_aload_n hx hb d_La_law_799 rfl (lv_at hl 3 rfl) ?_
              refine lv_aload_n hx hb d_La_law_800 rfl (lv_at hl 1 rfl) ?_
              refine lv_iload hx hb d_La_law_801 (lv_at hl 5 rfl) ?_
              refine lv_iconst (v := nI 1) hx hb d_La_law_803 (by decide +kernel) ?_
              refine lv_iadd hx hb d_La_law_804 ?_
              refine aw_ti (nI_add (6 * t) 1) ?_
              refine va_sld hx hb hX hbl hbA hS (i := (nI ((6 * t) + 1))) (vp_in_nI (by omega) (by omega)) d_La_law_805 ?_
              refine aw_ti (y := nI j) (by rw [nI_clamp (by omega)]; exact hc0.symm) ?_
              refine lv_aload_n hx hb d_La_law_806 rfl (lv_at hl 1 rfl) ?_
              refine lv_iload hx hb d_La_law_807 (lv_at hl 5 rfl) ?_
              refine lv_iconst (v := nI 2) hx hb d_La_law_809 (by decide +kernel) ?_
              refine lv_iadd hx hb d_La_law_810 ?_
              refine aw_ti (nI_add (6 * t) 2) ?_
              refine va_sld hx hb hX hbl hbA hS (i := (nI ((6 * t) + 2))) (vp_in_nI (by omega) (by omega)) d_La_law_811 ?_
              refine aw_ti (y := fr) (by rw [nI_clamp (by omega)]; exact hfr.symm) ?_
              refine lv_aload_n hx hb d_La_law_812 rfl (lv_at hl 1 rfl) ?_
              refine lv_iload hx hb d_La_law_813 (lv_at hl 5 rfl) ?_
              refine lv_iconst (v := nI 3) hx hb d_La_law_815 (by decide +kernel) ?_
              refine lv_iadd hx hb d_La_law_816 ?_
              refine aw_ti (nI_add (6 * t) 3) ?_
              refine va_sld hx hb hX hbl hbA hS (i := (nI ((6 * t) + 3))) (vp_in_nI (by omega) (by omega)) d_La_law_817 ?_
              refine aw_ti (y := nI 0) (by rw [nI_clamp (by omega)]; exact hm0.symm) ?_
              obtain ⟨_, he422⟩ := zr_M0 hSh
              refine va_calli (va_runV (As := [.int (nI j), .int fr, .int (nI 0)]) (rest := []) ⟨hx, hb, hml, hown, hG⟩ (k_Mo_takeXbV l D g ad N0 zG zO zX zY zA zB zM zI zL zK zN zF zQ j fr (nI 0) hj hi) (aw_wV 3 hG gw_12_49 gw_12_46 gw_0_10 gw_12_47 gw_12_48 rfl rfl hd_Mo_take ⟨Nat.le_of_ble_eq_true rfl, Nat.le_of_ble_eq_true rfl⟩) (ag_qV (va_recv hK hP rfl he422) hP hD hSh hU hS) rfl rfl hl.1 rfl (lv_room (Nat.le_of_ble_eq_true rfl)) d_La_law_818 ⟨by omega, by omega⟩) hS (fun _ _ h => h) (fun _ h => h) ?_
              clear hP hD hSh hS he422
              intro x423 u8 t8 H locs ht _ ex423 hB _ _ hS
              obtain ⟨L, hP, hD, hSh⟩ := hB
              rw [ht] at hP
              clear ht
              have ex423 := ex423.symm
              refine lv_istore hx hb d_La_law_821 hl (by decide) rfl (fun ls hl => ?_)
              have hl : lv_has ls 8 [(6, .int x423), (5, .int (nI 2)), (0, .ref b), (1, .ref (aw_r ad 0)), (2, .ref (aw_m ad 0)), (3, .ref (aw_o ad)), (4, .int (nI (6 * t)))] := hl
              refine lv_goto (tgt := 854) hx hb d_La_law_823 (by decide) ?_
              refine lv_iinc (k := 6) (v := nI (6 * t + 6)) hx hb d_La_law_854 hl rfl (aw_inc (6 * t) 6 6 (by decide +kernel)) (by decide) rfl (fun ls hl => ?_)
              have hl : lv_has ls 8 [(4, .int (nI (6 * t + 6))), (6, .int x423), (5, .int (nI 2)), (0, .ref b), (1, .ref (aw_r ad 0)), (2, .ref (aw_m ad 0)), (3, .ref (aw_o ad))] := hl
              refine lv_goto (tgt := 23) hx hb d_La_law_857 (by decide) ?_
              have hl := lv_sub hl (l' := [(0, .ref b), (1, .ref (aw_r ad 0)), (2, .ref (aw_m ad 0)), (3, .ref (aw_o ad)), (4, .int (nI (6 * t + 6)))]) [3, 4, 5, 6, 0] rfl
              refine W.widen (k := 85 + (t + 1)) (n := 1246 + 6 * (t + 1)) (by omega) (by omega) ?_
              exact ih (t + 1) zG zO zX zY zA zB zM zI zL zK zN (nI 1) zQ _ _ L ls (by omega) hP hD hSh hR hS (by first | exact hl | simpa [Nat.mul_add] using hl)
          · by_cases hs : (zG j).1 = 3 ∧ (zG j).2 = 5
            · obtain ⟨kc, hkc, hci, hco⟩ := hR.2.1 j hj (by omega)
              refine lv_aload_n hx hb d_La_law_774 rfl (lv_at hl 1 rfl) ?_
              refine lv_aload_n hx hb d_La_law_775 rfl (lv_at hl 0 rfl) ?_
              refine lv_iload hx hb d_La_law_776 (lv_at hl 4 rfl) ?_
              refine lv_iconst (v := nI 1) hx hb d_La_law_778 (by decide +kernel) ?_
              refine lv_iadd hx hb d_La_law_779 ?_
              refine aw_ti (nI_add (6 * t) 1) ?_
              refine va_sld hx hb hX hbl hbA hS (i := (nI ((6 * t) + 1))) (vp_in_nI (by omega) (by omega)) d_La_law_780 ?_
              refine aw_ti (y := nI j) (by rw [nI_clamp (by omega)]; exact hc0.symm) ?_
              refine lv_aload_n hx hb d_La_law_781 rfl (lv_at hl 0 rfl) ?_
              refine lv_iload hx hb d_La_law_782 (lv_at hl 4 rfl) ?_
              refine lv_iconst (v := nI 2) hx hb d_La_law_784 (by decide +kernel) ?_
              refine lv_iadd hx hb d_La_law_785 ?_
              refine aw_ti (nI_add (6 * t) 2) ?_
              refine va_sld hx hb hX hbl hbA hS (i := (nI ((6 * t) + 2))) (vp_in_nI (by omega) (by omega)) d_La_law_786 ?_
              refine aw_ti (y := nI k) (by rw [nI_clamp (by omega)]; exact hfr.symm) ?_
              refine lv_aload_n hx hb d_La_law_787 rfl (lv_at hl 0 rfl) ?_
              refine lv_iload hx hb d_La_law_788 (lv_at hl 4 rfl) ?_
              refine lv_iconst (v := nI 3) hx hb d_La_law_790 (by decide +kernel) ?_
              refine lv_iadd hx hb d_La_law_791 ?_
              refine aw_ti (nI_add (6 * t) 3) ?_
              refine va_sld hx hb hX hbl hbA hS (i := (nI ((6 * t) + 3))) (vp_in_nI (by omega) (by omega)) d_La_law_792 ?_
              refine aw_ti (y := nI 0) (by rw [nI_clamp (by omega)]; exact hm0.symm) ?_
              refine lv_aload_n hx hb d_La_law_793 rfl (lv_at hl 3 rfl) ?_
              refine va_calli (vx_runSW (As := [.ref (aw_r ad 0), .int (nI j), .int (nI k), .int (nI 0), .ref (aw_o ad)]) (rest := []) ⟨hx, hb, hml, hown, hG⟩ (k_La_take10V l hst D g ad N0 zG zO zX zY zA zB zM zI zL zK zN zF zQ j (nI k) hj (by omega)) (aw_wW 5 hG gw_8_40 gw_8_38 gw_0_0 gw_8_39 rfl rfl hd_La_take ⟨Nat.le_of_ble_eq_true rfl, Nat.le_of_ble_eq_true rfl⟩) (ag_qS hP hD hSh hU hS) rfl rfl hl.1 rfl (lv_room (Nat.le_of_ble_eq_true rfl)) d_La_law_794 ⟨by omega, by omega⟩) hS (fun _ _ h => h) (fun _ h => h) ?_
              clear hP hD hSh hS
              intro x424 u8 t8 H locs ht _ ex424 hB _ _ hS
              obtain ⟨L, hP, hD, hSh⟩ := hB
              rw [ht] at hP
              clear ht
              subst ex424
              obtain ⟨zY425, ezY425⟩ : ∃ z : Nat → Nat → Int32, v_La_take10V_zY zY j = z := ⟨_, rfl⟩
              rw [ezY425] at hSh
              obtain ⟨zQ426, ezQ426⟩ : ∃ z : Int64, v_La_take10V_zQ zY j = z := ⟨_, rfl⟩
              rw [ezQ426] at hSh
              refine lv_istore hx hb d_La_law_797 hl (by decide) rfl (fun ls hl => ?_)
              have hl : lv_has ls 8 [(5, .int (nI 0)), (0, .ref b), (1, .ref (aw_r ad 0)), (2, .ref (aw_m ad 0)), (3, .ref (aw_o ad)), (4, .int (nI (6 * t)))] := hl
              refine lv_aload_n hx hb d_La_law_799 rfl (lv_at hl 3 rfl) ?_
              refine lv_aload_n hx hb d_La_law_800 rfl (lv_at hl 1 rfl) ?_
              refine lv_iload hx hb d_La_law_801 (lv_at hl 5 rfl) ?_
              refine lv_iconst (v := nI 1) hx hb d_La_law_803 (by decide +kernel) ?_
              refine lv_iadd hx hb d_La_law_804 ?_
              refine aw_ti (nI_add (6 * t) 1) ?_
              refine va_sld hx hb hX hbl hbA hS (i := (nI ((6 * t) + 1))) (vp_in_nI (by omega) (by omega)) d_La_law_805 ?_
              refine aw_ti (y := nI j) (by rw [nI_clamp (by omega)]; exact hc0.symm) ?_
              refine lv_aload_n hx hb d_La_law_806 rfl (lv_at hl 1 rfl) ?_
              refine lv_iload hx hb d_La_law_807 (lv_at hl 5 rfl) ?_
              refine lv_iconst (v := nI 2) hx hb d_La_law_809 (by decide +kernel) ?_
              refine lv_iadd hx hb d_La_law_810 ?_
              refine aw_ti (nI_add (6 * t) 2) ?_
              refine va_sld hx hb hX hbl hbA hS (i := (nI ((6 * t) + 2))) (vp_in_nI (by omega) (by omega)) d_La_law_811 ?_
              refine aw_ti (y := nI k) (by rw [nI_clamp (by omega)]; exact hfr.symm) ?_
              refine lv_aload_n hx hb d_La_law_812 rfl (lv_at hl 1 rfl) ?_
              refine lv_iload hx hb d_La_law_813 (lv_at hl 5 rfl) ?_
              refine lv_iconst (v := nI 3) hx hb d_La_law_815 (by decide +kernel) ?_
              refine lv_iadd hx hb d_La_law_816 ?_
              refine aw_ti (nI_add (6 * t) 3) ?_
              refine va_sld hx hb hX hbl hbA hS (i := (nI ((6 * t) + 3))) (vp_in_nI (by omega) (by omega)) d_La_law_817 ?_
              refine aw_ti (y := nI 0) (by rw [nI_clamp (by omega)]; exact hm0.symm) ?_
              obtain ⟨_, he427⟩ := zr_M0 hSh
              refine va_calli (va_runV (As := [.int (nI j), .int (nI k), .int (nI 0)]) (rest := []) ⟨hx, hb, hml, hown, hG⟩ (k_Mo_take1V l D g ad N0 zG zO zX zY425 zA zB zM zI zL zK zN zF zQ426 j kc k 0 hj (by omega) (by omega) hkc hci) (aw_wV 3 hG gw_12_49 gw_12_46 gw_0_10 gw_12_47 gw_12_48 rfl rfl hd_Mo_take ⟨Nat.le_of_ble_eq_true rfl, Nat.le_of_ble_eq_true rfl⟩) (ag_qV (va_recv hK hP rfl he427) hP hD hSh hU hS) rfl rfl hl.1 rfl (lv_room (Nat.le_of_ble_eq_true rfl)) d_La_law_818 ⟨by omega, by omega⟩) hS (fun _ _ h => h) (fun _ h => h) ?_
              clear hP hD hSh hS he427
              intro x428 u8 t8 H locs ht _ ex428 hB _ _ hS
              obtain ⟨L, hP, hD, hSh⟩ := hB
              rw [ht] at hP
              clear ht
              obtain ⟨zI429, ezI429⟩ : ∃ z : Nat → Nat → Int32, v_Mo_take1V_zI zI zL j kc k 0 = z := ⟨_, rfl⟩
              rw [ezI429] at hSh
              obtain ⟨zL430, ezL430⟩ : ∃ z : Nat → Nat → Int64, v_Mo_take1V_zL zI zL j kc k 0 = z := ⟨_, rfl⟩
              rw [ezL430] at hSh
              have ex428 := ex428.symm
              refine lv_istore hx hb d_La_law_821 hl (by decide) rfl (fun ls hl => ?_)
              have hl : lv_has ls 8 [(6, .int x428), (5, .int (nI 0)), (0, .ref b), (1, .ref (aw_r ad 0)), (2, .ref (aw_m ad 0)), (3, .ref (aw_o ad)), (4, .int (nI (6 * t)))] := hl
              refine lv_goto (tgt := 854) hx hb d_La_law_823 (by decide) ?_
              refine lv_iinc (k := 6) (v := nI (6 * t + 6)) hx hb d_La_law_854 hl rfl (aw_inc (6 * t) 6 6 (by decide +kernel)) (by decide) rfl (fun ls hl => ?_)
              have hl : lv_has ls 8 [(4, .int (nI (6 * t + 6))), (6, .int x428), (5, .int (nI 0)), (0, .ref b), (1, .ref (aw_r ad 0)), (2, .ref (aw_m ad 0)), (3, .ref (aw_o ad))] := hl
              refine lv_goto (tgt := 23) hx hb d_La_law_857 (by decide) ?_
              have hl := lv_sub hl (l' := [(0, .ref b), (1, .ref (aw_r ad 0)), (2, .ref (aw_m ad 0)), (3, .ref (aw_o ad)), (4, .int (nI (6 * t + 6)))]) [3, 4, 5, 6, 0] rfl
              refine W.widen (k := 85 + (t + 1)) (n := 1246 + 6 * (t + 1)) (by omega) (by omega) ?_
              have hR : az_R zG zO zX zY425 zA zB zM zI429 zL430 := by
                subst ex428 ezL430 ezI429 ezQ426 ezY425
                exact r_take10_1 hR hj hs hk hkc hci hco
              exact ih (t + 1) zG zO zX zY425 zA zB zM zI429 zL430 (nI kc) (az_wn kc) (nI 0) zQ426 _ _ L ls (by omega) hP hD hSh hR hS (by first | exact hl | simpa [Nat.mul_add] using hl)
            · refine lv_aload_n hx hb d_La_law_774 rfl (lv_at hl 1 rfl) ?_
              refine lv_aload_n hx hb d_La_law_775 rfl (lv_at hl 0 rfl) ?_
              refine lv_iload hx hb d_La_law_776 (lv_at hl 4 rfl) ?_
              refine lv_iconst (v := nI 1) hx hb d_La_law_778 (by decide +kernel) ?_
              refine lv_iadd hx hb d_La_law_779 ?_
              refine aw_ti (nI_add (6 * t) 1) ?_
              refine va_sld hx hb hX hbl hbA hS (i := (nI ((6 * t) + 1))) (vp_in_nI (by omega) (by omega)) d_La_law_780 ?_
              refine aw_ti (y := nI j) (by rw [nI_clamp (by omega)]; exact hc0.symm) ?_
              refine lv_aload_n hx hb d_La_law_781 rfl (lv_at hl 0 rfl) ?_
              refine lv_iload hx hb d_La_law_782 (lv_at hl 4 rfl) ?_
              refine lv_iconst (v := nI 2) hx hb d_La_law_784 (by decide +kernel) ?_
              refine lv_iadd hx hb d_La_law_785 ?_
              refine aw_ti (nI_add (6 * t) 2) ?_
              refine va_sld hx hb hX hbl hbA hS (i := (nI ((6 * t) + 2))) (vp_in_nI (by omega) (by omega)) d_La_law_786 ?_
              refine aw_ti (y := nI k) (by rw [nI_clamp (by omega)]; exact hfr.symm) ?_
              refine lv_aload_n hx hb d_La_law_787 rfl (lv_at hl 0 rfl) ?_
              refine lv_iload hx hb d_La_law_788 (lv_at hl 4 rfl) ?_
              refine lv_iconst (v := nI 3) hx hb d_La_law_790 (by decide +kernel) ?_
              refine lv_iadd hx hb d_La_law_791 ?_
              refine aw_ti (nI_add (6 * t) 3) ?_
              refine va_sld hx hb hX hbl hbA hS (i := (nI ((6 * t) + 3))) (vp_in_nI (by omega) (by omega)) d_La_law_792 ?_
              refine aw_ti (y := nI 0) (by rw [nI_clamp (by omega)]; exact hm0.symm) ?_
              refine lv_aload_n hx hb d_La_law_793 rfl (lv_at hl 3 rfl) ?_
              refine va_calli (vx_runSW (As := [.ref (aw_r ad 0), .int (nI j), .int (nI k), .int (nI 0), .ref (aw_o ad)]) (rest := []) ⟨hx, hb, hml, hown, hG⟩ (k_La_takeXs0V l hst D g ad N0 zG zO zX zY zA zB zM zI zL zK zN zF zQ j (nI k) hj (by omega)) (aw_wW 5 hG gw_8_40 gw_8_38 gw_0_0 gw_8_39 rfl rfl hd_La_take ⟨Nat.le_of_ble_eq_true rfl, Nat.le_of_ble_eq_true rfl⟩) (ag_qS hP hD hSh hU hS) rfl rfl hl.1 rfl (lv_room (Nat.le_of_ble_eq_true rfl)) d_La_law_794 ⟨by omega, by omega⟩) hS (fun _ _ h => h) (fun _ h => h) ?_
              clear hP hD hSh hS
              intro x431 u8 t8 H locs ht _ ex431 hB _ _ hS
              obtain ⟨L, hP, hD, hSh⟩ := hB
              rw [ht] at hP
              clear ht
              subst ex431
              refine lv_istore hx hb d_La_law_797 hl (by decide) rfl (fun ls hl => ?_)
              have hl : lv_has ls 8 [(5, .int (nI 2)), (0, .ref b), (1, .ref (aw_r ad 0)), (2, .ref (aw_m ad 0)), (3, .ref (aw_o ad)), (4, .int (nI (6 * t)))] := hl
              refine lv_aload_n hx hb d_La_law_799 rfl (lv_at hl 3 rfl) ?_
              refine lv_aload_n hx hb d_La_law_800 rfl (lv_at hl 1 rfl) ?_
              refine lv_iload hx hb d_La_law_801 (lv_at hl 5 rfl) ?_
              refine lv_iconst (v := nI 1) hx hb d_La_law_803 (by decide +kernel) ?_
              refine lv_iadd hx hb d_La_law_804 ?_
              refine aw_ti (nI_add (6 * t) 1) ?_
              refine va_sld hx hb hX hbl hbA hS (i := (nI ((6 * t) + 1))) (vp_in_nI (by omega) (by omega)) d_La_law_805 ?_
              refine aw_ti (y := nI j) (by rw [nI_clamp (by omega)]; exact hc0.symm) ?_
              refine lv_aload_n hx hb d_La_law_806 rfl (lv_at hl 1 rfl) ?_
              refine lv_iload hx hb d_La_law_807 (lv_at hl 5 rfl) ?_
              refine lv_iconst (v := nI 2) hx hb d_La_law_809 (by decide +kernel) ?_
              refine lv_iadd hx hb d_La_law_810 ?_
              refine aw_ti (nI_add (6 * t) 2) ?_
              refine va_sld hx hb hX hbl hbA hS (i := (nI ((6 * t) + 2))) (vp_in_nI (by omega) (by omega)) d_La_law_811 ?_
              refine aw_ti (y := nI k) (by rw [nI_clamp (by omega)]; exact hfr.symm) ?_
              refine lv_aload_n hx hb d_La_law_812 rfl (lv_at hl 1 rfl) ?_
              refine lv_iload hx hb d_La_law_813 (lv_at hl 5 rfl) ?_
              refine lv_iconst (v := nI 3) hx hb d_La_law_815 (by decide +kernel) ?_
              refine lv_iadd hx hb d_La_law_816 ?_
              refine aw_ti (nI_add (6 * t) 3) ?_
              refine va_sld hx hb hX hbl hbA hS (i := (nI ((6 * t) + 3))) (vp_in_nI (by omega) (by omega)) d_La_law_817 ?_
              refine aw_ti (y := nI 0) (by rw [nI_clamp (by omega)]; exact hm0.symm) ?_
              obtain ⟨_, he432⟩ := zr_M0 hSh
              refine va_calli (va_runV (As := [.int (nI j), .int (nI k), .int (nI 0)]) (rest := []) ⟨hx, hb, hml, hown, hG⟩ (k_Mo_takeXsV l D g ad N0 zG zO zX zY zA zB zM zI zL zK zN zF zQ j k 0 hj (by omega) (by omega)) (aw_wV 3 hG gw_12_49 gw_12_46 gw_0_10 gw_12_47 gw_12_48 rfl rfl hd_Mo_take ⟨Nat.le_of_ble_eq_true rfl, Nat.le_of_ble_eq_true rfl⟩) (ag_qV (va_recv hK hP rfl he432) hP hD hSh hU hS) rfl rfl hl.1 rfl (lv_room (Nat.le_of_ble_eq_true rfl)) d_La_law_818 ⟨by omega, by omega⟩) hS (fun _ _ h => h) (fun _ h => h) ?_
              clear hP hD hSh hS he432
              intro x433 u8 t8 H locs ht _ ex433 hB _ _ hS
              obtain ⟨L, hP, hD, hSh⟩ := hB
              rw [ht] at hP
              clear ht
              have ex433 := ex433.symm
              refine lv_istore hx hb d_La_law_821 hl (by decide) rfl (fun ls hl => ?_)
              have hl : lv_has ls 8 [(6, .int x433), (5, .int (nI 2)), (0, .ref b), (1, .ref (aw_r ad 0)), (2, .ref (aw_m ad 0)), (3, .ref (aw_o ad)), (4, .int (nI (6 * t)))] := hl
              refine lv_goto (tgt := 854) hx hb d_La_law_823 (by decide) ?_
              refine lv_iinc (k := 6) (v := nI (6 * t + 6)) hx hb d_La_law_854 hl rfl (aw_inc (6 * t) 6 6 (by decide +kernel)) (by decide) rfl (fun ls hl => ?_)
              have hl : lv_has ls 8 [(4, .int (nI (6 * t + 6))), (6, .int x433), (5, .int (nI 2)), (0, .ref b), (1, .ref (aw_r ad 0)), (2, .ref (aw_m ad 0)), (3, .ref (aw_o ad))] := hl
              refine lv_goto (tgt := 23) hx hb d_La_law_857 (by decide) ?_
              have hl := lv_sub hl (l' := [(0, .ref b), (1, .ref (aw_r ad 0)), (2, .ref (aw_m ad 0)), (3, .ref (aw_o ad)), (4, .int (nI (6 * t + 6)))]) [3, 4, 5, 6, 0] rfl
              refine W.widen (k := 85 + (t + 1)) (n := 1246 + 6 * (t + 1)) (by omega) (by omega) ?_
              exact ih (t + 1) zG zO zX zY zA zB zM zI zL zK zN (nI 2) zQ _ _ L ls (by omega) hP hD hSh hR hS (by first | exact hl | simpa [Nat.mul_add] using hl)
        · by_cases hs : (zG j).1 = 3 ∧ (zG j).2 = 5
          · obtain ⟨kc, hkc, hci, hco⟩ := hR.2.1 j hj (by omega)
            refine lv_aload_n hx hb d_La_law_774 rfl (lv_at hl 1 rfl) ?_
            refine lv_aload_n hx hb d_La_law_775 rfl (lv_at hl 0 rfl) ?_
            refine lv_iload hx hb d_La_law_776 (lv_at hl 4 rfl) ?_
            refine lv_iconst (v := nI 1) hx hb d_La_law_778 (by decide +kernel) ?_
            refine lv_iadd hx hb d_La_law_779 ?_
            refine aw_ti (nI_add (6 * t) 1) ?_
            refine va_sld hx hb hX hbl hbA hS (i := (nI ((6 * t) + 1))) (vp_in_nI (by omega) (by omega)) d_La_law_780 ?_
            refine aw_ti (y := nI j) (by rw [nI_clamp (by omega)]; exact hc0.symm) ?_
            refine lv_aload_n hx hb d_La_law_781 rfl (lv_at hl 0 rfl) ?_
            refine lv_iload hx hb d_La_law_782 (lv_at hl 4 rfl) ?_
            refine lv_iconst (v := nI 2) hx hb d_La_law_784 (by decide +kernel) ?_
            refine lv_iadd hx hb d_La_law_785 ?_
            refine aw_ti (nI_add (6 * t) 2) ?_
            refine va_sld hx hb hX hbl hbA hS (i := (nI ((6 * t) + 2))) (vp_in_nI (by omega) (by omega)) d_La_law_786 ?_
            refine aw_ti (y := nI k) (by rw [nI_clamp (by omega)]; exact hfr.symm) ?_
            refine lv_aload_n hx hb d_La_law_787 rfl (lv_at hl 0 rfl) ?_
            refine lv_iload hx hb d_La_law_788 (lv_at hl 4 rfl) ?_
            refine lv_iconst (v := nI 3) hx hb d_La_law_790 (by decide +kernel) ?_
            refine lv_iadd hx hb d_La_law_791 ?_
            refine aw_ti (nI_add (6 * t) 3) ?_
            refine va_sld hx hb hX hbl hbA hS (i := (nI ((6 * t) + 3))) (vp_in_nI (by omega) (by omega)) d_La_law_792 ?_
            refine aw_ti (y := nI mm) (by rw [nI_clamp (by omega)]; exact hm0.symm) ?_
            refine lv_aload_n hx hb d_La_law_793 rfl (lv_at hl 3 rfl) ?_
            refine va_calli (vx_runSW (As := [.ref (aw_r ad 0), .int (nI j), .int (nI k), .int (nI mm), .ref (aw_o ad)]) (rest := []) ⟨hx, hb, hml, hown, hG⟩ (k_La_take11V l hst D g ad N0 zG zO zX zY zA zB zM zI zL zK zN zF zQ j k mm hj (by omega) (by omega) (by omega)) (aw_wW 5 hG gw_8_40 gw_8_38 gw_0_0 gw_8_39 rfl rfl hd_La_take ⟨Nat.le_of_ble_eq_true rfl, Nat.le_of_ble_eq_true rfl⟩) (ag_qS hP hD hSh hU hS) rfl rfl hl.1 rfl (lv_room (Nat.le_of_ble_eq_true rfl)) d_La_law_794 ⟨by omega, by omega⟩) hS (fun _ _ h => h) (fun _ h => h) ?_
            clear hP hD hSh hS
            intro x434 u8 t8 H locs ht _ ex434 hB _ _ hS
            obtain ⟨L, hP, hD, hSh⟩ := hB
            rw [ht] at hP
            clear ht
            subst ex434
            obtain ⟨zX435, ezX435⟩ : ∃ z : Nat → Nat → Int64, v_La_take11V_zX zO zX zY zA zB j k mm = z := ⟨_, rfl⟩
            rw [ezX435] at hSh
            obtain ⟨zY436, ezY436⟩ : ∃ z : Nat → Nat → Int32, v_La_take11V_zY zO zX zY zA zB j k mm = z := ⟨_, rfl⟩
            rw [ezY436] at hSh
            obtain ⟨zQ437, ezQ437⟩ : ∃ z : Int64, v_La_take11V_zQ zO zX zY zA zB j k mm = z := ⟨_, rfl⟩
            rw [ezQ437] at hSh
            refine lv_istore hx hb d_La_law_797 hl (by decide) rfl (fun ls hl => ?_)
            have hl : lv_has ls 8 [(5, .int (nI 0)), (0, .ref b), (1, .ref (aw_r ad 0)), (2, .ref (aw_m ad 0)), (3, .ref (aw_o ad)), (4, .int (nI (6 * t)))] := hl
            refine lv_aload_n hx hb d_La_law_799 rfl (lv_at hl 3 rfl) ?_
            refine lv_aload_n hx hb d_La_law_800 rfl (lv_at hl 1 rfl) ?_
            refine lv_iload hx hb d_La_law_801 (lv_at hl 5 rfl) ?_
            refine lv_iconst (v := nI 1) hx hb d_La_law_803 (by decide +kernel) ?_
            refine lv_iadd hx hb d_La_law_804 ?_
            refine aw_ti (nI_add (6 * t) 1) ?_
            refine va_sld hx hb hX hbl hbA hS (i := (nI ((6 * t) + 1))) (vp_in_nI (by omega) (by omega)) d_La_law_805 ?_
            refine aw_ti (y := nI j) (by rw [nI_clamp (by omega)]; exact hc0.symm) ?_
            refine lv_aload_n hx hb d_La_law_806 rfl (lv_at hl 1 rfl) ?_
            refine lv_iload hx hb d_La_law_807 (lv_at hl 5 rfl) ?_
            refine lv_iconst (v := nI 2) hx hb d_La_law_809 (by decide +kernel) ?_
            refine lv_iadd hx hb d_La_law_810 ?_
            refine aw_ti (nI_add (6 * t) 2) ?_
            refine va_sld hx hb hX hbl hbA hS (i := (nI ((6 * t) + 2))) (vp_in_nI (by omega) (by omega)) d_La_law_811 ?_
            refine aw_ti (y := nI k) (by rw [nI_clamp (by omega)]; exact hfr.symm) ?_
            refine lv_aload_n hx hb d_La_law_812 rfl (lv_at hl 1 rfl) ?_
            refine lv_iload hx hb d_La_law_813 (lv_at hl 5 rfl) ?_
            refine lv_iconst (v := nI 3) hx hb d_La_law_815 (by decide +kernel) ?_
            refine lv_iadd hx hb d_La_law_816 ?_
            refine aw_ti (nI_add (6 * t) 3) ?_
            refine va_sld hx hb hX hbl hbA hS (i := (nI ((6 * t) + 3))) (vp_in_nI (by omega) (by omega)) d_La_law_817 ?_
            refine aw_ti (y := nI mm) (by rw [nI_clamp (by omega)]; exact hm0.symm) ?_
            obtain ⟨_, he438⟩ := zr_M0 hSh
            refine va_calli (va_runV (As := [.int (nI j), .int (nI k), .int (nI mm)]) (rest := []) ⟨hx, hb, hml, hown, hG⟩ (k_Mo_take1V l D g ad N0 zG zO zX435 zY436 zA zB zM zI zL zK zN zF zQ437 j kc k mm hj (by omega) (by omega) hkc hci) (aw_wV 3 hG gw_12_49 gw_12_46 gw_0_10 gw_12_47 gw_12_48 rfl rfl hd_Mo_take ⟨Nat.le_of_ble_eq_true rfl, Nat.le_of_ble_eq_true rfl⟩) (ag_qV (va_recv hK hP rfl he438) hP hD hSh hU hS) rfl rfl hl.1 rfl (lv_room (Nat.le_of_ble_eq_true rfl)) d_La_law_818 ⟨by omega, by omega⟩) hS (fun _ _ h => h) (fun _ h => h) ?_
            clear hP hD hSh hS he438
            intro x439 u8 t8 H locs ht _ ex439 hB _ _ hS
            obtain ⟨L, hP, hD, hSh⟩ := hB
            rw [ht] at hP
            clear ht
            obtain ⟨zI440, ezI440⟩ : ∃ z : Nat → Nat → Int32, v_Mo_take1V_zI zI zL j kc k mm = z := ⟨_, rfl⟩
            rw [ezI440] at hSh
            obtain ⟨zL441, ezL441⟩ : ∃ z : Nat → Nat → Int64, v_Mo_take1V_zL zI zL j kc k mm = z := ⟨_, rfl⟩
            rw [ezL441] at hSh
            have ex439 := ex439.symm
            refine lv_istore hx hb d_La_law_821 hl (by decide) rfl (fun ls hl => ?_)
            have hl : lv_has ls 8 [(6, .int x439), (5, .int (nI 0)), (0, .ref b), (1, .ref (aw_r ad 0)), (2, .ref (aw_m ad 0)), (3, .ref (aw_o ad)), (4, .int (nI (6 * t)))] := hl
            refine lv_goto (tgt := 854) hx hb d_La_law_823 (by decide) ?_
            refine lv_iinc (k := 6) (v := nI (6 * t + 6)) hx hb d_La_law_854 hl rfl (aw_inc (6 * t) 6 6 (by decide +kernel)) (by decide) rfl (fun ls hl => ?_)
            have hl : lv_has ls 8 [(4, .int (nI (6 * t + 6))), (6, .int x439), (5, .int (nI 0)), (0, .ref b), (1, .ref (aw_r ad 0)), (2, .ref (aw_m ad 0)), (3, .ref (aw_o ad))] := hl
            refine lv_goto (tgt := 23) hx hb d_La_law_857 (by decide) ?_
            have hl := lv_sub hl (l' := [(0, .ref b), (1, .ref (aw_r ad 0)), (2, .ref (aw_m ad 0)), (3, .ref (aw_o ad)), (4, .int (nI (6 * t + 6)))]) [3, 4, 5, 6, 0] rfl
            refine W.widen (k := 85 + (t + 1)) (n := 1246 + 6 * (t + 1)) (by omega) (by omega) ?_
            have hR : az_R zG zO zX435 zY436 zA zB zM zI440 zL441 := by
              subst ex439 ezL441 ezI440 ezQ437 ezY436 ezX435
              exact r_take11_1 hR hj hs h0 hk hkc hci hco
            exact ih (t + 1) zG zO zX435 zY436 zA zB zM zI440 zL441 (nI kc) (az_wn kc) (nI 0) zQ437 _ _ L ls (by omega) hP hD hSh hR hS (by first | exact hl | simpa [Nat.mul_add] using hl)
          · refine lv_aload_n hx hb d_La_law_774 rfl (lv_at hl 1 rfl) ?_
            refine lv_aload_n hx hb d_La_law_775 rfl (lv_at hl 0 rfl) ?_
            refine lv_iload hx hb d_La_law_776 (lv_at hl 4 rfl) ?_
            refine lv_iconst (v := nI 1) hx hb d_La_law_778 (by decide +kernel) ?_
            refine lv_iadd hx hb d_La_law_779 ?_
            refine aw_ti (nI_add (6 * t) 1) ?_
            refine va_sld hx hb hX hbl hbA hS (i := (nI ((6 * t) + 1))) (vp_in_nI (by omega) (by omega)) d_La_law_780 ?_
            refine aw_ti (y := nI j) (by rw [nI_clamp (by omega)]; exact hc0.symm) ?_
            refine lv_aload_n hx hb d_La_law_781 rfl (lv_at hl 0 rfl) ?_
            refine lv_iload hx hb d_La_law_782 (lv_at hl 4 rfl) ?_
            refine lv_iconst (v := nI 2) hx hb d_La_law_784 (by decide +kernel) ?_
            refine lv_iadd hx hb d_La_law_785 ?_
            refine aw_ti (nI_add (6 * t) 2) ?_
            refine va_sld hx hb hX hbl hbA hS (i := (nI ((6 * t) + 2))) (vp_in_nI (by omega) (by omega)) d_La_law_786 ?_
            refine aw_ti (y := nI k) (by rw [nI_clamp (by omega)]; exact hfr.symm) ?_
            refine lv_aload_n hx hb d_La_law_787 rfl (lv_at hl 0 rfl) ?_
            refine lv_iload hx hb d_La_law_788 (lv_at hl 4 rfl) ?_
            refine lv_iconst (v := nI 3) hx hb d_La_law_790 (by decide +kernel) ?_
            refine lv_iadd hx hb d_La_law_791 ?_
            refine aw_ti (nI_add (6 * t) 3) ?_
            refine va_sld hx hb hX hbl hbA hS (i := (nI ((6 * t) + 3))) (vp_in_nI (by omega) (by omega)) d_La_law_792 ?_
            refine aw_ti (y := nI mm) (by rw [nI_clamp (by omega)]; exact hm0.symm) ?_
            refine lv_aload_n hx hb d_La_law_793 rfl (lv_at hl 3 rfl) ?_
            refine va_calli (vx_runSW (As := [.ref (aw_r ad 0), .int (nI j), .int (nI k), .int (nI mm), .ref (aw_o ad)]) (rest := []) ⟨hx, hb, hml, hown, hG⟩ (k_La_takeXs1V l hst D g ad N0 zG zO zX zY zA zB zM zI zL zK zN zF zQ j k mm hj (by omega) (by omega) (by omega)) (aw_wW 5 hG gw_8_40 gw_8_38 gw_0_0 gw_8_39 rfl rfl hd_La_take ⟨Nat.le_of_ble_eq_true rfl, Nat.le_of_ble_eq_true rfl⟩) (ag_qS hP hD hSh hU hS) rfl rfl hl.1 rfl (lv_room (Nat.le_of_ble_eq_true rfl)) d_La_law_794 ⟨by omega, by omega⟩) hS (fun _ _ h => h) (fun _ h => h) ?_
            clear hP hD hSh hS
            intro x442 u8 t8 H locs ht _ ex442 hB _ _ hS
            obtain ⟨L, hP, hD, hSh⟩ := hB
            rw [ht] at hP
            clear ht
            subst ex442
            refine lv_istore hx hb d_La_law_797 hl (by decide) rfl (fun ls hl => ?_)
            have hl : lv_has ls 8 [(5, .int (nI 2)), (0, .ref b), (1, .ref (aw_r ad 0)), (2, .ref (aw_m ad 0)), (3, .ref (aw_o ad)), (4, .int (nI (6 * t)))] := hl
            refine lv_aload_n hx hb d_La_law_799 rfl (lv_at hl 3 rfl) ?_
            refine lv_aload_n hx hb d_La_law_800 rfl (lv_at hl 1 rfl) ?_
            refine lv_iload hx hb d_La_law_801 (lv_at hl 5 rfl) ?_
            refine lv_iconst (v := nI 1) hx hb d_La_law_803 (by decide +kernel) ?_
            refine lv_iadd hx hb d_La_law_804 ?_
            refine aw_ti (nI_add (6 * t) 1) ?_
            refine va_sld hx hb hX hbl hbA hS (i := (nI ((6 * t) + 1))) (vp_in_nI (by omega) (by omega)) d_La_law_805 ?_
            refine aw_ti (y := nI j) (by rw [nI_clamp (by omega)]; exact hc0.symm) ?_
            refine lv_aload_n hx hb d_La_law_806 rfl (lv_at hl 1 rfl) ?_
            refine lv_iload hx hb d_La_law_807 (lv_at hl 5 rfl) ?_
            refine lv_iconst (v := nI 2) hx hb d_La_law_809 (by decide +kernel) ?_
            refine lv_iadd hx hb d_La_law_810 ?_
            refine aw_ti (nI_add (6 * t) 2) ?_
            refine va_sld hx hb hX hbl hbA hS (i := (nI ((6 * t) + 2))) (vp_in_nI (by omega) (by omega)) d_La_law_811 ?_
            refine aw_ti (y := nI k) (by rw [nI_clamp (by omega)]; exact hfr.symm) ?_
            refine lv_aload_n hx hb d_La_law_812 rfl (lv_at hl 1 rfl) ?_
            refine lv_iload hx hb d_La_law_813 (lv_at hl 5 rfl) ?_
            refine lv_iconst (v := nI 3) hx hb d_La_law_815 (by decide +kernel) ?_
            refine lv_iadd hx hb d_La_law_816 ?_
            refine aw_ti (nI_add (6 * t) 3) ?_
            refine va_sld hx hb hX hbl hbA hS (i := (nI ((6 * t) + 3))) (vp_in_nI (by omega) (by omega)) d_La_law_817 ?_
            refine aw_ti (y := nI mm) (by rw [nI_clamp (by omega)]; exact hm0.symm) ?_
            obtain ⟨_, he443⟩ := zr_M0 hSh
            refine va_calli (va_runV (As := [.int (nI j), .int (nI k), .int (nI mm)]) (rest := []) ⟨hx, hb, hml, hown, hG⟩ (k_Mo_takeXsV l D g ad N0 zG zO zX zY zA zB zM zI zL zK zN zF zQ j k mm hj (by omega) (by omega)) (aw_wV 3 hG gw_12_49 gw_12_46 gw_0_10 gw_12_47 gw_12_48 rfl rfl hd_Mo_take ⟨Nat.le_of_ble_eq_true rfl, Nat.le_of_ble_eq_true rfl⟩) (ag_qV (va_recv hK hP rfl he443) hP hD hSh hU hS) rfl rfl hl.1 rfl (lv_room (Nat.le_of_ble_eq_true rfl)) d_La_law_818 ⟨by omega, by omega⟩) hS (fun _ _ h => h) (fun _ h => h) ?_
            clear hP hD hSh hS he443
            intro x444 u8 t8 H locs ht _ ex444 hB _ _ hS
            obtain ⟨L, hP, hD, hSh⟩ := hB
            rw [ht] at hP
            clear ht
            have ex444 := ex444.symm
            refine lv_istore hx hb d_La_law_821 hl (by decide) rfl (fun ls hl => ?_)
            have hl : lv_has ls 8 [(6, .int x444), (5, .int (nI 2)), (0, .ref b), (1, .ref (aw_r ad 0)), (2, .ref (aw_m ad 0)), (3, .ref (aw_o ad)), (4, .int (nI (6 * t)))] := hl
            refine lv_goto (tgt := 854) hx hb d_La_law_823 (by decide) ?_
            refine lv_iinc (k := 6) (v := nI (6 * t + 6)) hx hb d_La_law_854 hl rfl (aw_inc (6 * t) 6 6 (by decide +kernel)) (by decide) rfl (fun ls hl => ?_)
            have hl : lv_has ls 8 [(4, .int (nI (6 * t + 6))), (6, .int x444), (5, .int (nI 2)), (0, .ref b), (1, .ref (aw_r ad 0)), (2, .ref (aw_m ad 0)), (3, .ref (aw_o ad))] := hl
            refine lv_goto (tgt := 23) hx hb d_La_law_857 (by decide) ?_
            have hl := lv_sub hl (l' := [(0, .ref b), (1, .ref (aw_r ad 0)), (2, .ref (aw_m ad 0)), (3, .ref (aw_o ad)), (4, .int (nI (6 * t + 6)))]) [3, 4, 5, 6, 0] rfl
            refine W.widen (k := 85 + (t + 1)) (n := 1246 + 6 * (t + 1)) (by omega) (by omega) ?_
            exact ih (t + 1) zG zO zX zY zA zB zM zI zL zK zN (nI 2) zQ _ _ L ls (by omega) hP hD hSh hR hS (by first | exact hl | simpa [Nat.mul_add] using hl)
    · refine aw_ti (y := nI 12) (by rw [hs3]) ?_
      refine lv_tableIn (tgt := 826) (off := 786) hx hb d_La_law_40 (by decide +kernel) (by decide +kernel) (by decide +kernel) (by decide) ?_
      obtain ⟨c0, hc0⟩ : ∃ z : Int32, z = xs (6 * t + 1) := ⟨_, rfl⟩
      rcases aw_rng 4 (by decide) c0 with hc | ⟨j, hj, rfl⟩
      · refine lv_aload_n hx hb d_La_law_826 rfl (lv_at hl 1 rfl) ?_
        refine lv_aload_n hx hb d_La_law_827 rfl (lv_at hl 0 rfl) ?_
        refine lv_iload hx hb d_La_law_828 (lv_at hl 4 rfl) ?_
        refine lv_iconst (v := nI 1) hx hb d_La_law_830 (by decide +kernel) ?_
        refine lv_iadd hx hb d_La_law_831 ?_
        refine aw_ti (nI_add (6 * t) 1) ?_
        refine va_sld hx hb hX hbl hbA hS (i := (nI ((6 * t) + 1))) (vp_in_nI (by omega) (by omega)) d_La_law_832 ?_
        refine aw_ti (y := c0) (by rw [nI_clamp (by omega)]; exact hc0.symm) ?_
        refine lv_aload_n hx hb d_La_law_833 rfl (lv_at hl 3 rfl) ?_
        refine va_calli (vx_runSW (As := [.ref (aw_r ad 0), .int c0, .ref (aw_o ad)]) (rest := []) ⟨hx, hb, hml, hown, hG⟩ (k_La_tagXcV l hst D g ad N0 zG zO zX zY zA zB zM zI zL zK zN zF zQ c0 hc) (aw_wW 3 hG gw_9_2 gw_9_0 gw_0_0 gw_9_1 rfl rfl hd_La_tag ⟨Nat.le_of_ble_eq_true rfl, Nat.le_of_ble_eq_true rfl⟩) (ag_qS hP hD hSh hU hS) rfl rfl hl.1 rfl (lv_room (Nat.le_of_ble_eq_true rfl)) d_La_law_834 ⟨by omega, by omega⟩) hS (fun _ _ h => h) (fun _ h => h) ?_
        clear hP hD hSh hS
        intro x445 u8 t8 H locs ht _ ex445 hB _ _ hS
        obtain ⟨L, hP, hD, hSh⟩ := hB
        rw [ht] at hP
        clear ht
        subst ex445
        refine lv_istore hx hb d_La_law_837 hl (by decide) rfl (fun ls hl => ?_)
        have hl : lv_has ls 8 [(5, .int (nI 1)), (0, .ref b), (1, .ref (aw_r ad 0)), (2, .ref (aw_m ad 0)), (3, .ref (aw_o ad)), (4, .int (nI (6 * t)))] := hl
        refine lv_aload_n hx hb d_La_law_839 rfl (lv_at hl 3 rfl) ?_
        refine lv_aload_n hx hb d_La_law_840 rfl (lv_at hl 1 rfl) ?_
        refine lv_iload hx hb d_La_law_841 (lv_at hl 5 rfl) ?_
        refine lv_iconst (v := nI 1) hx hb d_La_law_843 (by decide +kernel) ?_
        refine lv_iadd hx hb d_La_law_844 ?_
        refine aw_ti (nI_add (6 * t) 1) ?_
        refine va_sld hx hb hX hbl hbA hS (i := (nI ((6 * t) + 1))) (vp_in_nI (by omega) (by omega)) d_La_law_845 ?_
        refine aw_ti (y := c0) (by rw [nI_clamp (by omega)]; exact hc0.symm) ?_
        obtain ⟨_, he446⟩ := zr_M0 hSh
        refine va_calll (va_runV (As := [.int c0]) (rest := []) ⟨hx, hb, hml, hown, hG⟩ (k_Mo_tagXcV l D g ad N0 zG zO zX zY zA zB zM zI zL zK zN zF zQ c0 hc) (aw_wV 1 hG gw_12_56 gw_12_53 gw_0_10 gw_12_54 gw_12_55 rfl rfl hd_Mo_tag ⟨Nat.le_of_ble_eq_true rfl, Nat.le_of_ble_eq_true rfl⟩) (ag_qV (va_recv hK hP rfl he446) hP hD hSh hU hS) rfl rfl hl.1 rfl (lv_room (Nat.le_of_ble_eq_true rfl)) d_La_law_846 ⟨by omega, by omega⟩) hS (fun _ _ h => h) (fun _ h => h) ?_
        clear hP hD hSh hS he446
        intro y447 u8 t8 H locs ht _ ey447 hB _ _ hS
        obtain ⟨L, hP, hD, hSh⟩ := hB
        rw [ht] at hP
        clear ht
        have ey447 := ey447.symm
        refine lv_lstore hx hb d_La_law_849 hl (by decide) rfl (fun ls hl => ?_)
        have hl : lv_has ls 8 [(6, .long y447), (5, .int (nI 1)), (0, .ref b), (1, .ref (aw_r ad 0)), (2, .ref (aw_m ad 0)), (3, .ref (aw_o ad)), (4, .int (nI (6 * t)))] := hl
        refine lv_goto (tgt := 854) hx hb d_La_law_851 (by decide) ?_
        refine lv_iinc (k := 6) (v := nI (6 * t + 6)) hx hb d_La_law_854 hl rfl (aw_inc (6 * t) 6 6 (by decide +kernel)) (by decide) rfl (fun ls hl => ?_)
        have hl : lv_has ls 8 [(4, .int (nI (6 * t + 6))), (6, .long y447), (5, .int (nI 1)), (0, .ref b), (1, .ref (aw_r ad 0)), (2, .ref (aw_m ad 0)), (3, .ref (aw_o ad))] := hl
        refine lv_goto (tgt := 23) hx hb d_La_law_857 (by decide) ?_
        have hl := lv_sub hl (l' := [(0, .ref b), (1, .ref (aw_r ad 0)), (2, .ref (aw_m ad 0)), (3, .ref (aw_o ad)), (4, .int (nI (6 * t + 6)))]) [3, 4, 5, 6, 0] rfl
        refine W.widen (k := 85 + (t + 1)) (n := 1246 + 6 * (t + 1)) (by omega) (by omega) ?_
        exact ih (t + 1) zG zO zX zY zA zB zM zI zL zK zN (nI 1) zQ _ _ L ls (by omega) hP hD hSh hR hS (by first | exact hl | simpa [Nat.mul_add] using hl)
      · have hgj := hSh.2.2.2.2.1 j hj
        have hq1 : (zM j).1 = (zG j).1 := by rw [hR.1 j hj]
        have hq2 : (zM j).2 = (zG j).2 := by rw [hR.1 j hj]
        by_cases hs : (zG j).1 = 3 ∧ (zG j).2 = 5
        · obtain ⟨kc, hkc, hci, hco⟩ := hR.2.1 j hj (by omega)
          refine lv_aload_n hx hb d_La_law_826 rfl (lv_at hl 1 rfl) ?_
          refine lv_aload_n hx hb d_La_law_827 rfl (lv_at hl 0 rfl) ?_
          refine lv_iload hx hb d_La_law_828 (lv_at hl 4 rfl) ?_
          refine lv_iconst (v := nI 1) hx hb d_La_law_830 (by decide +kernel) ?_
          refine lv_iadd hx hb d_La_law_831 ?_
          refine aw_ti (nI_add (6 * t) 1) ?_
          refine va_sld hx hb hX hbl hbA hS (i := (nI ((6 * t) + 1))) (vp_in_nI (by omega) (by omega)) d_La_law_832 ?_
          refine aw_ti (y := nI j) (by rw [nI_clamp (by omega)]; exact hc0.symm) ?_
          refine lv_aload_n hx hb d_La_law_833 rfl (lv_at hl 3 rfl) ?_
          refine va_calli (vx_runSW (As := [.ref (aw_r ad 0), .int (nI j), .ref (aw_o ad)]) (rest := []) ⟨hx, hb, hml, hown, hG⟩ (k_La_tag1V l hst D g ad N0 zG zO zX zY zA zB zM zI zL zK zN zF zQ j hj (by omega)) (aw_wW 3 hG gw_9_2 gw_9_0 gw_0_0 gw_9_1 rfl rfl hd_La_tag ⟨Nat.le_of_ble_eq_true rfl, Nat.le_of_ble_eq_true rfl⟩) (ag_qS hP hD hSh hU hS) rfl rfl hl.1 rfl (lv_room (Nat.le_of_ble_eq_true rfl)) d_La_law_834 ⟨by omega, by omega⟩) hS (fun _ _ h => h) (fun _ h => h) ?_
          clear hP hD hSh hS
          intro x448 u8 t8 H locs ht _ ex448 hB _ _ hS
          obtain ⟨L, hP, hD, hSh⟩ := hB
          rw [ht] at hP
          clear ht
          subst ex448
          obtain ⟨zX449, ezX449⟩ : ∃ z : Nat → Nat → Int64, v_La_tag1V_zX zO zX zY zA j = z := ⟨_, rfl⟩
          rw [ezX449] at hSh
          obtain ⟨zY450, ezY450⟩ : ∃ z : Nat → Nat → Int32, v_La_tag1V_zY zO zX zY zA j = z := ⟨_, rfl⟩
          rw [ezY450] at hSh
          obtain ⟨zQ451, ezQ451⟩ : ∃ z : Int64, v_La_tag1V_zQ zO zX zY zA j = z := ⟨_, rfl⟩
          rw [ezQ451] at hSh
          refine lv_istore hx hb d_La_law_837 hl (by decide) rfl (fun ls hl => ?_)
          have hl : lv_has ls 8 [(5, .int (nI 0)), (0, .ref b), (1, .ref (aw_r ad 0)), (2, .ref (aw_m ad 0)), (3, .ref (aw_o ad)), (4, .int (nI (6 * t)))] := hl
          refine lv_aload_n hx hb d_La_law_839 rfl (lv_at hl 3 rfl) ?_
          refine lv_aload_n hx hb d_La_law_840 rfl (lv_at hl 1 rfl) ?_
          refine lv_iload hx hb d_La_law_841 (lv_at hl 5 rfl) ?_
          refine lv_iconst (v := nI 1) hx hb d_La_law_843 (by decide +kernel) ?_
          refine lv_iadd hx hb d_La_law_844 ?_
          refine aw_ti (nI_add (6 * t) 1) ?_
          refine va_sld hx hb hX hbl hbA hS (i := (nI ((6 * t) + 1))) (vp_in_nI (by omega) (by omega)) d_La_law_845 ?_
          refine aw_ti (y := nI j) (by rw [nI_clamp (by omega)]; exact hc0.symm) ?_
          obtain ⟨_, he452⟩ := zr_M0 hSh
          refine va_calll (va_runV (As := [.int (nI j)]) (rest := []) ⟨hx, hb, hml, hown, hG⟩ (k_Mo_tag1V l D g ad N0 zG zO zX449 zY450 zA zB zM zI zL zK zN zF zQ451 j kc hj (by omega) hkc hci) (aw_wV 1 hG gw_12_56 gw_12_53 gw_0_10 gw_12_54 gw_12_55 rfl rfl hd_Mo_tag ⟨Nat.le_of_ble_eq_true rfl, Nat.le_of_ble_eq_true rfl⟩) (ag_qV (va_recv hK hP rfl he452) hP hD hSh hU hS) rfl rfl hl.1 rfl (lv_room (Nat.le_of_ble_eq_true rfl)) d_La_law_846 ⟨by omega, by omega⟩) hS (fun _ _ h => h) (fun _ h => h) ?_
          clear hP hD hSh hS he452
          intro y453 u8 t8 H locs ht _ ey453 hB _ _ hS
          obtain ⟨L, hP, hD, hSh⟩ := hB
          rw [ht] at hP
          clear ht
          obtain ⟨zI454, ezI454⟩ : ∃ z : Nat → Nat → Int32, v_Mo_tag1V_zI zI zL j kc = z := ⟨_, rfl⟩
          rw [ezI454] at hSh
          obtain ⟨zL455, ezL455⟩ : ∃ z : Nat → Nat → Int64, v_Mo_tag1V_zL zI zL j kc = z := ⟨_, rfl⟩
          rw [ezL455] at hSh
          have ey453 := ey453.symm
          refine lv_lstore hx hb d_La_law_849 hl (by decide) rfl (fun ls hl => ?_)
          have hl : lv_has ls 8 [(6, .long y453), (5, .int (nI 0)), (0, .ref b), (1, .ref (aw_r ad 0)), (2, .ref (aw_m ad 0)), (3, .ref (aw_o ad)), (4, .int (nI (6 * t)))] := hl
          refine lv_goto (tgt := 854) hx hb d_La_law_851 (by decide) ?_
          refine lv_iinc (k := 6) (v := nI (6 * t + 6)) hx hb d_La_law_854 hl rfl (aw_inc (6 * t) 6 6 (by decide +kernel)) (by decide) rfl (fun ls hl => ?_)
          have hl : lv_has ls 8 [(4, .int (nI (6 * t + 6))), (6, .long y453), (5, .int (nI 0)), (0, .ref b), (1, .ref (aw_r ad 0)), (2, .ref (aw_m ad 0)), (3, .ref (aw_o ad))] := hl
          refine lv_goto (tgt := 23) hx hb d_La_law_857 (by decide) ?_
          have hl := lv_sub hl (l' := [(0, .ref b), (1, .ref (aw_r ad 0)), (2, .ref (aw_m ad 0)), (3, .ref (aw_o ad)), (4, .int (nI (6 * t + 6)))]) [3, 4, 5, 6, 0] rfl
          refine W.widen (k := 85 + (t + 1)) (n := 1246 + 6 * (t + 1)) (by omega) (by omega) ?_
          have hR : az_R zG zO zX449 zY450 zA zB zM zI454 zL455 := by
            subst ey453 ezL455 ezI454 ezQ451 ezY450 ezX449
            exact r_tag1 hR hj hs hkc hci hco
          exact ih (t + 1) zG zO zX449 zY450 zA zB zM zI454 zL455 (nI kc) (az_wn kc) (nI 0) zQ451 _ _ L ls (by omega) hP hD hSh hR hS (by first | exact hl | simpa [Nat.mul_add] using hl)
        · refine lv_aload_n hx hb d_La_law_826 rfl (lv_at hl 1 rfl) ?_
          refine lv_aload_n hx hb d_La_law_827 rfl (lv_at hl 0 rfl) ?_
          refine lv_iload hx hb d_La_law_828 (lv_at hl 4 rfl) ?_
          refine lv_iconst (v := nI 1) hx hb d_La_law_830 (by decide +kernel) ?_
          refine lv_iadd hx hb d_La_law_831 ?_
          refine aw_ti (nI_add (6 * t) 1) ?_
          refine va_sld hx hb hX hbl hbA hS (i := (nI ((6 * t) + 1))) (vp_in_nI (by omega) (by omega)) d_La_law_832 ?_
          refine aw_ti (y := nI j) (by rw [nI_clamp (by omega)]; exact hc0.symm) ?_
          refine lv_aload_n hx hb d_La_law_833 rfl (lv_at hl 3 rfl) ?_
          refine va_calli (vx_runSW (As := [.ref (aw_r ad 0), .int (nI j), .ref (aw_o ad)]) (rest := []) ⟨hx, hb, hml, hown, hG⟩ (k_La_tagXsV l hst D g ad N0 zG zO zX zY zA zB zM zI zL zK zN zF zQ j hj (by omega)) (aw_wW 3 hG gw_9_2 gw_9_0 gw_0_0 gw_9_1 rfl rfl hd_La_tag ⟨Nat.le_of_ble_eq_true rfl, Nat.le_of_ble_eq_true rfl⟩) (ag_qS hP hD hSh hU hS) rfl rfl hl.1 rfl (lv_room (Nat.le_of_ble_eq_true rfl)) d_La_law_834 ⟨by omega, by omega⟩) hS (fun _ _ h => h) (fun _ h => h) ?_
          clear hP hD hSh hS
          intro x456 u8 t8 H locs ht _ ex456 hB _ _ hS
          obtain ⟨L, hP, hD, hSh⟩ := hB
          rw [ht] at hP
          clear ht
          subst ex456
          refine lv_istore hx hb d_La_law_837 hl (by decide) rfl (fun ls hl => ?_)
          have hl : lv_has ls 8 [(5, .int (nI 2)), (0, .ref b), (1, .ref (aw_r ad 0)), (2, .ref (aw_m ad 0)), (3, .ref (aw_o ad)), (4, .int (nI (6 * t)))] := hl
          refine lv_aload_n hx hb d_La_law_839 rfl (lv_at hl 3 rfl) ?_
          refine lv_aload_n hx hb d_La_law_840 rfl (lv_at hl 1 rfl) ?_
          refine lv_iload hx hb d_La_law_841 (lv_at hl 5 rfl) ?_
          refine lv_iconst (v := nI 1) hx hb d_La_law_843 (by decide +kernel) ?_
          refine lv_iadd hx hb d_La_law_844 ?_
          refine aw_ti (nI_add (6 * t) 1) ?_
          refine va_sld hx hb hX hbl hbA hS (i := (nI ((6 * t) + 1))) (vp_in_nI (by omega) (by omega)) d_La_law_845 ?_
          refine aw_ti (y := nI j) (by rw [nI_clamp (by omega)]; exact hc0.symm) ?_
          obtain ⟨_, he457⟩ := zr_M0 hSh
          refine va_calll (va_runV (As := [.int (nI j)]) (rest := []) ⟨hx, hb, hml, hown, hG⟩ (k_Mo_tagXsV l D g ad N0 zG zO zX zY zA zB zM zI zL zK zN zF zQ j hj (by omega)) (aw_wV 1 hG gw_12_56 gw_12_53 gw_0_10 gw_12_54 gw_12_55 rfl rfl hd_Mo_tag ⟨Nat.le_of_ble_eq_true rfl, Nat.le_of_ble_eq_true rfl⟩) (ag_qV (va_recv hK hP rfl he457) hP hD hSh hU hS) rfl rfl hl.1 rfl (lv_room (Nat.le_of_ble_eq_true rfl)) d_La_law_846 ⟨by omega, by omega⟩) hS (fun _ _ h => h) (fun _ h => h) ?_
          clear hP hD hSh hS he457
          intro y458 u8 t8 H locs ht _ ey458 hB _ _ hS
          obtain ⟨L, hP, hD, hSh⟩ := hB
          rw [ht] at hP
          clear ht
          have ey458 := ey458.symm
          refine lv_lstore hx hb d_La_law_849 hl (by decide) rfl (fun ls hl => ?_)
          have hl : lv_has ls 8 [(6, .long y458), (5, .int (nI 2)), (0, .ref b), (1, .ref (aw_r ad 0)), (2, .ref (aw_m ad 0)), (3, .ref (aw_o ad)), (4, .int (nI (6 * t)))] := hl
          refine lv_goto (tgt := 854) hx hb d_La_law_851 (by decide) ?_
          refine lv_iinc (k := 6) (v := nI (6 * t + 6)) hx hb d_La_law_854 hl rfl (aw_inc (6 * t) 6 6 (by decide +kernel)) (by decide) rfl (fun ls hl => ?_)
          have hl : lv_has ls 8 [(4, .int (nI (6 * t + 6))), (6, .long y458), (5, .int (nI 2)), (0, .ref b), (1, .ref (aw_r ad 0)), (2, .ref (aw_m ad 0)), (3, .ref (aw_o ad))] := hl
          refine lv_goto (tgt := 23) hx hb d_La_law_857 (by decide) ?_
          have hl := lv_sub hl (l' := [(0, .ref b), (1, .ref (aw_r ad 0)), (2, .ref (aw_m ad 0)), (3, .ref (aw_o ad)), (4, .int (nI (6 * t + 6)))]) [3, 4, 5, 6, 0] rfl
          refine W.widen (k := 85 + (t + 1)) (n := 1246 + 6 * (t + 1)) (by omega) (by omega) ?_
          exact ih (t + 1) zG zO zX zY zA zB zM zI zL zK zN (nI 2) zQ _ _ L ls (by omega) hP hD hSh hR hS (by first | exact hl | simpa [Nat.mul_add] using hl)
    · refine aw_ti (y := nI 13) (by rw [hs3]) ?_
      refine lv_tableOut (tgt := 854) hx hb d_La_law_40 (by decide +kernel) (by decide) ?_
      refine lv_iinc (k := 4) (v := nI (6 * t + 6)) hx hb d_La_law_854 hl rfl (aw_inc (6 * t) 6 6 (by decide +kernel)) (by decide) rfl (fun ls hl => ?_)
      have hl : lv_has ls 8 [(4, .int (nI (6 * t + 6))), (0, .ref b), (1, .ref (aw_r ad 0)), (2, .ref (aw_m ad 0)), (3, .ref (aw_o ad))] := hl
      refine lv_goto (tgt := 23) hx hb d_La_law_857 (by decide) ?_
      have hl := lv_sub hl (l' := [(0, .ref b), (1, .ref (aw_r ad 0)), (2, .ref (aw_m ad 0)), (3, .ref (aw_o ad)), (4, .int (nI (6 * t + 6)))]) [1, 2, 3, 4, 0] rfl
      refine W.widen (k := 85 + (t + 1)) (n := 1246 + 6 * (t + 1)) (by omega) (by omega) ?_
      exact ih (t + 1) zG zO zX zY zA zB zM zI zL zK zN zF zQ _ _ L ls (by omega) hP hD hSh hR hS (by first | exact hl | simpa [Nat.mul_add] using hl)
    · refine aw_ti (y := nI 14) (by rw [hs3]) ?_
      refine lv_tableOut (tgt := 854) hx hb d_La_law_40 (by decide +kernel) (by decide) ?_
      refine lv_iinc (k := 4) (v := nI (6 * t + 6)) hx hb d_La_law_854 hl rfl (aw_inc (6 * t) 6 6 (by decide +kernel)) (by decide) rfl (fun ls hl => ?_)
      have hl : lv_has ls 8 [(4, .int (nI (6 * t + 6))), (0, .ref b), (1, .ref (aw_r ad 0)), (2, .ref (aw_m ad 0)), (3, .ref (aw_o ad))] := hl
      refine lv_goto (tgt := 23) hx hb d_La_law_857 (by decide) ?_
      have hl := lv_sub hl (l' := [(0, .ref b), (1, .ref (aw_r ad 0)), (2, .ref (aw_m ad 0)), (3, .ref (aw_o ad)), (4, .int (nI (6 * t + 6)))]) [1, 2, 3, 4, 0] rfl
      refine W.widen (k := 85 + (t + 1)) (n := 1246 + 6 * (t + 1)) (by omega) (by omega) ?_
      exact ih (t + 1) zG zO zX zY zA zB zM zI zL zK zN zF zQ _ _ L ls (by omega) hP hD hSh hR hS (by first | exact hl | simpa [Nat.mul_add] using hl)
    · refine aw_ti (y := nI 15) (by rw [hs3]) ?_
      refine lv_tableOut (tgt := 854) hx hb d_La_law_40 (by decide +kernel) (by decide) ?_
      refine lv_iinc (k := 4) (v := nI (6 * t + 6)) hx hb d_La_law_854 hl rfl (aw_inc (6 * t) 6 6 (by decide +kernel)) (by decide) rfl (fun ls hl => ?_)
      have hl : lv_has ls 8 [(4, .int (nI (6 * t + 6))), (0, .ref b), (1, .ref (aw_r ad 0)), (2, .ref (aw_m ad 0)), (3, .ref (aw_o ad))] := hl
      refine lv_goto (tgt := 23) hx hb d_La_law_857 (by decide) ?_
      have hl := lv_sub hl (l' := [(0, .ref b), (1, .ref (aw_r ad 0)), (2, .ref (aw_m ad 0)), (3, .ref (aw_o ad)), (4, .int (nI (6 * t + 6)))]) [1, 2, 3, 4, 0] rfl
      refine W.widen (k := 85 + (t + 1)) (n := 1246 + 6 * (t + 1)) (by omega) (by omega) ?_
      exact ih (t + 1) zG zO zX zY zA zB zM zI zL zK zN zF zQ _ _ L ls (by omega) hP hD hSh hR hS (by first | exact hl | simpa [Nat.mul_add] using hl)
