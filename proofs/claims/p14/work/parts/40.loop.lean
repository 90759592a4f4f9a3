set_option maxHeartbeats 40000000 in
set_option maxRecDepth 100000 in
theorem law_loop {p : Program} {e : Env} {s : State} {m : MethodId} {below : List Frame} {meth : Method} {c : Code} (l : Launch) (hst : l.stackTraces = false) {b Ln : Nat} {xs : Nat → Int32} (hLn : Ln ≤ 3072) (C0 : lw_At p s m meth c b Ln xs) {D : va_G} {g : Nat → ClassId} {ad : Nat → Nat} {N0 : Nat} (hN0e : N0 = s.heap.size) (hU : aw_U D g N0 s) :
    ∀ (d t : Nat) (zG : Nat → Nat × Nat) (zO : Nat → Nat) (zX : Nat → Nat → Int64) (zY : Nat → Nat → Int32) (zA : Nat → Nat → Nat → Int32) (zB : Nat → Int32) (zM : Nat → Nat × Nat) (zI : Nat → Nat → Int32) (zL : Nat → Nat → Int64) (zK : Int32) (zN : Nat) (zF : Int32) (zQ : Int64) (H : Heap) (locs : List Loc) (L : va_W) (ls : Array Slot), t + d = Ln / 6 → va_P D aw_C L H → va_D (aw_Z N0) L → az_Sh g ad zG zO zX zY zA zB zM zI zL zK zN zF zQ L → az_R zG zO zX zY zA zB zM zI zL → va_S (aw_Z N0) s.heap H locs → lv_has ls 8 [(0, .ref b), (1, .ref (aw_r ad 0)), (2, .ref (aw_m ad 0)), (3, .ref (aw_o ad)), (4, .int (nI (6 * t)))] → W p l e room_1 s m #[Value.ref b] below meth c H locs (85 + t) (1246 + 6 * t) (lw_Z below #[Value.ref b] s) (F0 m 23 ls []) := by
  obtain ⟨hx, hb, hr, hml, hown, hts, hX, hbl, hlocks, hgv⟩ := C0
  have hown : s.vm.findClass "RuleCiphersLaw" = some m.cls := hown
  have hG : ∀ w ∈ aw_G, w.before #[Value.ref b] s = true := fun w h => hts w (aw_GL w h)
  have hbA : ¬ aw_Z N0 b := fun h => by have h9 : N0 ≤ b := h; omega
  have hR1 : room_1.cells = 613841 := rfl
  have hR2 : room_1.slots = 7254581 := rfl
  have hE := hU.1
  have hK := hE.1
  have hN := hE.2.1
  intro d
  induction d with
  | zero =>
    intro t zG zO zX zY zA zB zM zI zL zK zN zF zQ H locs L ls ht0 hP hD hSh hR hS hl
    by_cases h6 : 6 ≤ Ln
    · refine lv_iload hx hb d_La_law_23 (lv_at hl 4 rfl) ?_
      refine lv_aload_n hx hb d_La_law_25 rfl (lv_at hl 0 rfl) ?_
      refine va_slen hx hb hX hbl hbA hS d_La_law_26 ?_
      refine aw_ti (y := nI Ln) rfl ?_
      refine lv_bipush (v := nI 6) hx hb d_La_law_27 (by decide +kernel) ?_
      refine lv_isub hx hb d_La_law_29 ?_
      refine aw_ti (pk_sub (a := Ln) (b := 6) (by omega)) ?_
      refine lv_icmp_gt (tgt := 859) hx hb d_La_law_30 (by decide) (fun _ => ?_) (fun h => absurd (show nI (Ln - 6) < nI (6 * t) from (nI_ltI (by omega) (by omega)).mpr (by omega)) h)
      refine lv_iconst (v := 1) hx hb d_La_law_859 (by decide +kernel) ?_
      refine va_forget (fun q hq => by have h9 := hS.2.2 q hq; rw [← hN0e]; exact h9) ?_
      refine W.widen (k := 613841) (n := 7254581) (by omega) (by omega) ?_
      exact lw_ret hx hb hr hlocks d_La_law_860
    · have ht1 : t = 0 := by omega
      subst ht1
      refine lv_iload hx hb d_La_law_23 (lv_at hl 4 rfl) ?_
      refine lv_aload_n hx hb d_La_law_25 rfl (lv_at hl 0 rfl) ?_
      refine va_slen hx hb hX hbl hbA hS d_La_law_26 ?_
      refine aw_ti (y := nI Ln) rfl ?_
      refine lv_bipush (v := nI 6) hx hb d_La_law_27 (by decide +kernel) ?_
      refine lv_isub hx hb d_La_law_29 ?_
      refine lv_icmp_gt (tgt := 859) hx hb d_La_law_30 (by decide) (fun _ => ?_) (fun h => absurd (show nI Ln - nI 6 < nI (6 * 0) from pk_sneg (by decide) (by omega)) h)
      refine lv_iconst (v := 1) hx hb d_La_law_859 (by decide +kernel) ?_
      refine va_forget (fun q hq => by have h9 := hS.2.2 q hq; rw [← hN0e]; exact h9) ?_
      refine W.widen (k := 613841) (n := 7254581) (by omega) (by omega) ?_
      exact lw_ret hx hb hr hlocks d_La_law_860
  | succ d ih =>
    intro t zG zO zX zY zA zB zM zI zL zK zN zF zQ H locs L ls ht0 hP hD hSh hR hS hl
    refine lv_iload hx hb d_La_law_23 (lv_at hl 4 rfl) ?_
    refine lv_aload_n hx hb d_La_law_25 rfl (lv_at hl 0 rfl) ?_
    refine va_slen hx hb hX hbl hbA hS d_La_law_26 ?_
    refine aw_ti (y := nI Ln) rfl ?_
    refine lv_bipush (v := nI 6) hx hb d_La_law_27 (by decide +kernel) ?_
    refine lv_isub hx hb d_La_law_29 ?_
    refine aw_ti (pk_sub (a := Ln) (b := 6) (by omega)) ?_
    refine lv_icmp_gt (tgt := 859) hx hb d_La_law_30 (by decide) (fun h => absurd h (show ¬ nI (Ln - 6) < nI (6 * t) from fun h9 => absurd ((nI_ltI (by omega) (by omega)).mp h9) (by omega))) (fun _ => ?_)
    refine lv_aload_n hx hb d_La_law_33 rfl (lv_at hl 0 rfl) ?_
    refine lv_iload hx hb d_La_law_34 (lv_at hl 4 rfl) ?_
    refine va_sld hx hb hX hbl hbA hS (i := (nI (6 * t))) (vp_in_nI (by omega) (by omega)) d_La_law_36 ?_
    refine lv_topi (fun x1 _ => ?_)
    refine lv_bipush (v := nI 15) hx hb d_La_law_37 (by decide +kernel) ?_
    refine lv_iand hx hb d_La_law_39 ?_
    obtain ⟨k2, hk2, ek2⟩ := pk_andE x1 (m := nI 15) 4 (by decide +kernel)
    refine aw_ti ek2 ?_
    rcases (by omega : k2 = 0 ∨ k2 = 1 ∨ k2 = 2 ∨ k2 = 3 ∨ k2 = 4 ∨ k2 = 5 ∨ k2 = 6 ∨ k2 = 7 ∨ k2 = 8 ∨ k2 = 9 ∨ k2 = 10 ∨ k2 = 11 ∨ k2 = 12 ∨ k2 = 13 ∨ k2 = 14 ∨ k2 = 15) with hs3 | hs3 | hs3 | hs3 | hs3 | hs3 | hs3 | hs3 | hs3 | hs3 | hs3 | hs3 | hs3 | hs3 | hs3 | hs3
    · refine aw_ti (y := nI 0) (by rw [hs3]) ?_
      refine lv_tableIn (tgt := 108) (off := 68) hx hb d_La_law_40 (by decide +kernel) (by decide +kernel) (by decide +kernel) (by decide) ?_
      obtain ⟨c0, hc0⟩ : ∃ z : Int32, z = xs (6 * t + 1) := ⟨_, rfl⟩
      obtain ⟨k0, hk0⟩ : ∃ z : Int32, z = xs (6 * t + 2) := ⟨_, rfl⟩
      rcases aw_rng 4 (by decide) c0 with hc | ⟨j, hj, rfl⟩
      · refine lv_aload_n hx hb d_La_law_108 rfl (lv_at hl 1 rfl) ?_
        refine lv_aload_n hx hb d_La_law_109 rfl (lv_at hl 0 rfl) ?_
        refine lv_iload hx hb d_La_law_110 (lv_at hl 4 rfl) ?_
        refine lv_iconst (v := nI 1) hx hb d_La_law_112 (by decide +kernel) ?_
        refine lv_iadd hx hb d_La_law_113 ?_
        refine aw_ti (nI_add (6 * t) 1) ?_
        refine va_sld hx hb hX hbl hbA hS (i := (nI ((6 * t) + 1))) (vp_in_nI (by omega) (by omega)) d_La_law_114 ?_
        refine aw_ti (y := c0) (by rw [nI_clamp (by omega)]; exact hc0.symm) ?_
        refine lv_aload_n hx hb d_La_law_115 rfl (lv_at hl 0 rfl) ?_
        refine lv_iload hx hb d_La_law_116 (lv_at hl 4 rfl) ?_
        refine lv_iconst (v := nI 2) hx hb d_La_law_118 (by decide +kernel) ?_
        refine lv_iadd hx hb d_La_law_119 ?_
        refine aw_ti (nI_add (6 * t) 2) ?_
        refine va_sld hx hb hX hbl hbA hS (i := (nI ((6 * t) + 2))) (vp_in_nI (by omega) (by omega)) d_La_law_120 ?_
        refine aw_ti (y := k0) (by rw [nI_clamp (by omega)]; exact hk0.symm) ?_
        refine va_calli (vx_runSW (As := [.ref (aw_r ad 0), .int c0, .int k0]) (rest := []) ⟨hx, hb, hml, hown, hG⟩ (k_La_chooseXcV l hst D g ad N0 zG zO zX zY zA zB zM zI zL zK zN zF zQ c0 k0 hc) (aw_wW 3 hG gw_2_37 gw_2_35 gw_0_0 gw_2_36 rfl rfl hd_La_choose ⟨Nat.le_of_ble_eq_true rfl, Nat.le_of_ble_eq_true rfl⟩) (ag_qS hP hD hSh hU hS) rfl rfl hl.1 rfl (lv_room (Nat.le_of_ble_eq_true rfl)) d_La_law_121 ⟨by omega, by omega⟩) hS (fun _ _ h => h) (fun _ h => h) ?_
        clear hP hD hSh hS
        intro x4 u8 t8 H locs ht _ ex4 hB _ _ hS
        obtain ⟨L, hP, hD, hSh⟩ := hB
        rw [ht] at hP
        clear ht
        subst ex4
        refine lv_istore hx hb d_La_law_124 hl (by decide) rfl (fun ls hl => ?_)
        have hl : lv_has ls 8 [(5, .int (nI 1)), (0, .ref b), (1, .ref (aw_r ad 0)), (2, .ref (aw_m ad 0)), (3, .ref (aw_o ad)), (4, .int (nI (6 * t)))] := hl
        refine lv_aload_n hx hb d_La_law_126 rfl (lv_at hl 3 rfl) ?_
        refine lv_aload_n hx hb d_La_law_127 rfl (lv_at hl 1 rfl) ?_
        refine lv_iload hx hb d_La_law_128 (lv_at hl 5 rfl) ?_
        refine lv_iconst (v := nI 1) hx hb d_La_law_130 (by decide +kernel) ?_
        refine lv_iadd hx hb d_La_law_131 ?_
        refine aw_ti (nI_add (6 * t) 1) ?_
        refine va_sld hx hb hX hbl hbA hS (i := (nI ((6 * t) + 1))) (vp_in_nI (by omega) (by omega)) d_La_law_132 ?_
        refine aw_ti (y := c0) (by rw [nI_clamp (by omega)]; exact hc0.symm) ?_
        refine lv_aload_n hx hb d_La_law_133 rfl (lv_at hl 1 rfl) ?_
        refine lv_iload hx hb d_La_law_134 (lv_at hl 5 rfl) ?_
        refine lv_iconst (v := nI 2) hx hb d_La_law_136 (by decide +kernel) ?_
        refine lv_iadd hx hb d_La_law_137 ?_
        refine aw_ti (nI_add (6 * t) 2) ?_
        refine va_sld hx hb hX hbl hbA hS (i := (nI ((6 * t) + 2))) (vp_in_nI (by omega) (by omega)) d_La_law_138 ?_
        refine aw_ti (y := k0) (by rw [nI_clamp (by omega)]; exact hk0.symm) ?_
        obtain ⟨_, he5⟩ := zr_M0 hSh
        refine va_callv (va_runV (As := [.int c0, .int k0]) (rest := []) ⟨hx, hb, hml, hown, hG⟩ (k_Mo_chooseXcV l D g ad N0 zG zO zX zY zA zB zM zI zL zK zN zF zQ c0 k0 hc) (aw_wV 2 hG gw_10_31 gw_10_28 gw_0_10 gw_10_29 gw_10_30 rfl rfl hd_Mo_choose ⟨Nat.le_of_ble_eq_true rfl, Nat.le_of_ble_eq_true rfl⟩) (ag_qV (va_recv hK hP rfl he5) hP hD hSh hU hS) rfl rfl hl.1 rfl (lv_room (Nat.le_of_ble_eq_true rfl)) d_La_law_139 ⟨by omega, by omega⟩) hS (fun _ _ h => h) (fun _ h => h) ?_
        clear hP hD hSh hS he5
        intro u8 t8 H locs ht _ _ hB _ _ hS
        obtain ⟨L, hP, hD, hSh⟩ := hB
        rw [ht] at hP
        clear ht
        refine lv_goto (tgt := 853) hx hb d_La_law_142 (by decide) ?_
        refine lv_iinc (k := 5) (v := nI (6 * t + 6)) hx hb d_La_law_853 hl rfl (aw_inc (6 * t) 6 6 (by decide +kernel)) (by decide) rfl (fun ls hl => ?_)
        have hl : lv_has ls 8 [(4, .int (nI (6 * t + 6))), (5, .int (nI 1)), (0, .ref b), (1, .ref (aw_r ad 0)), (2, .ref (aw_m ad 0)), (3, .ref (aw_o ad))] := hl
        refine lv_goto (tgt := 23) hx hb d_La_law_856 (by decide) ?_
        have hl := lv_sub hl (l' := [(0, .ref b), (1, .ref (aw_r ad 0)), (2, .ref (aw_m ad 0)), (3, .ref (aw_o ad)), (4, .int (nI (6 * t + 6)))]) [2, 3, 4, 5, 0] rfl
        refine W.widen (k := 85 + (t + 1)) (n := 1246 + 6 * (t + 1)) (by omega) (by omega) ?_
        exact ih (t + 1) zG zO zX zY zA zB zM zI zL zK zN (nI 1) zQ _ _ L ls (by omega) hP hD hSh hR hS (by first | exact hl | simpa [Nat.mul_add] using hl)
      · have hgj := hSh.2.2.2.2.1 j hj
        have hq1 : (zM j).1 = (zG j).1 := by rw [hR.1 j hj]
        have hq2 : (zM j).2 = (zG j).2 := by rw [hR.1 j hj]
        rcases aw_rng 5 (by decide) k0 with hk | ⟨k, hk, rfl⟩
        · refine lv_aload_n hx hb d_La_law_108 rfl (lv_at hl 1 rfl) ?_
          refine lv_aload_n hx hb d_La_law_109 rfl (lv_at hl 0 rfl) ?_
          refine lv_iload hx hb d_La_law_110 (lv_at hl 4 rfl) ?_
          refine lv_iconst (v := nI 1) hx hb d_La_law_112 (by decide +kernel) ?_
          refine lv_iadd hx hb d_La_law_113 ?_
          refine aw_ti (nI_add (6 * t) 1) ?_
          refine va_sld hx hb hX hbl hbA hS (i := (nI ((6 * t) + 1))) (vp_in_nI (by omega) (by omega)) d_La_law_114 ?_
          refine aw_ti (y := nI j) (by rw [nI_clamp (by omega)]; exact hc0.symm) ?_
          refine lv_aload_n hx hb d_La_law_115 rfl (lv_at hl 0 rfl) ?_
          refine lv_iload hx hb d_La_law_116 (lv_at hl 4 rfl) ?_
          refine lv_iconst (v := nI 2) hx hb d_La_law_118 (by decide +kernel) ?_
          refine lv_iadd hx hb d_La_law_119 ?_
          refine aw_ti (nI_add (6 * t) 2) ?_
          refine va_sld hx hb hX hbl hbA hS (i := (nI ((6 * t) + 2))) (vp_in_nI (by omega) (by omega)) d_La_law_120 ?_
          refine aw_ti (y := k0) (by rw [nI_clamp (by omega)]; exact hk0.symm) ?_
          refine va_calli (vx_runSW (As := [.ref (aw_r ad 0), .int (nI j), .int k0]) (rest := []) ⟨hx, hb, hml, hown, hG⟩ (k_La_chooseXaV l hst D g ad N0 zG zO zX zY zA zB zM zI zL zK zN zF zQ j k0 hj hk) (aw_wW 3 hG gw_2_37 gw_2_35 gw_0_0 gw_2_36 rfl rfl hd_La_choose ⟨Nat.le_of_ble_eq_true rfl, Nat.le_of_ble_eq_true rfl⟩) (ag_qS hP hD hSh hU hS) rfl rfl hl.1 rfl (lv_room (Nat.le_of_ble_eq_true rfl)) d_La_law_121 ⟨by omega, by omega⟩) hS (fun _ _ h => h) (fun _ h => h) ?_
          clear hP hD hSh hS
          intro x6 u8 t8 H locs ht _ ex6 hB _ _ hS
          obtain ⟨L, hP, hD, hSh⟩ := hB
          rw [ht] at hP
          clear ht
          subst ex6
          refine lv_istore hx hb d_La_law_124 hl (by decide) rfl (fun ls hl => ?_)
          have hl : lv_has ls 8 [(5, .int (nI 2)), (0, .ref b), (1, .ref (aw_r ad 0)), (2, .ref (aw_m ad 0)), (3, .ref (aw_o ad)), (4, .int (nI (6 * t)))] := hl
          refine lv_aload_n hx hb d_La_law_126 rfl (lv_at hl 3 rfl) ?_
          refine lv_aload_n hx hb d_La_law_127 rfl (lv_at hl 1 rfl) ?_
          refine lv_iload hx hb d_La_law_128 (lv_at hl 5 rfl) ?_
          refine lv_iconst (v := nI 1) hx hb d_La_law_130 (by decide +kernel) ?_
          refine lv_iadd hx hb d_La_law_131 ?_
          refine aw_ti (nI_add (6 * t) 1) ?_
          refine va_sld hx hb hX hbl hbA hS (i := (nI ((6 * t) + 1))) (vp_in_nI (by omega) (by omega)) d_La_law_132 ?_
          refine aw_ti (y := nI j) (by rw [nI_clamp (by omega)]; exact hc0.symm) ?_
          refine lv_aload_n hx hb d_La_law_133 rfl (lv_at hl 1 rfl) ?_
          refine lv_iload hx hb d_La_law_134 (lv_at hl 5 rfl) ?_
          refine lv_iconst (v := nI 2) hx hb d_La_law_136 (by decide +kernel) ?_
          refine lv_iadd hx hb d_La_law_137 ?_
          refine aw_ti (nI_add (6 * t) 2) ?_
          refine va_sld hx hb hX hbl hbA hS (i := (nI ((6 * t) + 2))) (vp_in_nI (by omega) (by omega)) d_La_law_138 ?_
          refine aw_ti (y := k0) (by rw [nI_clamp (by omega)]; exact hk0.symm) ?_
          obtain ⟨_, he7⟩ := zr_M0 hSh
          refine va_callv (va_runV (As := [.int (nI j), .int k0]) (rest := []) ⟨hx, hb, hml, hown, hG⟩ (k_Mo_chooseXaV l D g ad N0 zG zO zX zY zA zB zM zI zL zK zN zF zQ j k0 hj (aw_bnd 4 (by decide) hk)) (aw_wV 2 hG gw_10_31 gw_10_28 gw_0_10 gw_10_29 gw_10_30 rfl rfl hd_Mo_choose ⟨Nat.le_of_ble_eq_true rfl, Nat.le_of_ble_eq_true rfl⟩) (ag_qV (va_recv hK hP rfl he7) hP hD hSh hU hS) rfl rfl hl.1 rfl (lv_room (Nat.le_of_ble_eq_true rfl)) d_La_law_139 ⟨by omega, by omega⟩) hS (fun _ _ h => h) (fun _ h => h) ?_
          clear hP hD hSh hS he7
          intro u8 t8 H locs ht _ _ hB _ _ hS
          obtain ⟨L, hP, hD, hSh⟩ := hB
          rw [ht] at hP
          clear ht
          refine lv_goto (tgt := 853) hx hb d_La_law_142 (by decide) ?_
          refine lv_iinc (k := 5) (v := nI (6 * t + 6)) hx hb d_La_law_853 hl rfl (aw_inc (6 * t) 6 6 (by decide +kernel)) (by decide) rfl (fun ls hl => ?_)
          have hl : lv_has ls 8 [(4, .int (nI (6 * t + 6))), (5, .int (nI 2)), (0, .ref b), (1, .ref (aw_r ad 0)), (2, .ref (aw_m ad 0)), (3, .ref (aw_o ad))] := hl
          refine lv_goto (tgt := 23) hx hb d_La_law_856 (by decide) ?_
          have hl := lv_sub hl (l' := [(0, .ref b), (1, .ref (aw_r ad 0)), (2, .ref (aw_m ad 0)), (3, .ref (aw_o ad)), (4, .int (nI (6 * t + 6)))]) [2, 3, 4, 5, 0] rfl
          refine W.widen (k := 85 + (t + 1)) (n := 1246 + 6 * (t + 1)) (by omega) (by omega) ?_
          exact ih (t + 1) zG zO zX zY zA zB zM zI zL zK zN (nI 2) zQ _ _ L ls (by omega) hP hD hSh hR hS (by first | exact hl | simpa [Nat.mul_add] using hl)
        · by_cases hs : (zG j).1 = 0
          · refine lv_aload_n hx hb d_La_law_108 rfl (lv_at hl 1 rfl) ?_
            refine lv_aload_n hx hb d_La_law_109 rfl (lv_at hl 0 rfl) ?_
            refine lv_iload hx hb d_La_law_110 (lv_at hl 4 rfl) ?_
            refine lv_iconst (v := nI 1) hx hb d_La_law_112 (by decide +kernel) ?_
            refine lv_iadd hx hb d_La_law_113 ?_
            refine aw_ti (nI_add (6 * t) 1) ?_
            refine va_sld hx hb hX hbl hbA hS (i := (nI ((6 * t) + 1))) (vp_in_nI (by omega) (by omega)) d_La_law_114 ?_
            refine aw_ti (y := nI j) (by rw [nI_clamp (by omega)]; exact hc0.symm) ?_
            refine lv_aload_n hx hb d_La_law_115 rfl (lv_at hl 0 rfl) ?_
            refine lv_iload hx hb d_La_law_116 (lv_at hl 4 rfl) ?_
            refine lv_iconst (v := nI 2) hx hb d_La_law_118 (by decide +kernel) ?_
            refine lv_iadd hx hb d_La_law_119 ?_
            refine aw_ti (nI_add (6 * t) 2) ?_
            refine va_sld hx hb hX hbl hbA hS (i := (nI ((6 * t) + 2))) (vp_in_nI (by omega) (by omega)) d_La_law_120 ?_
            refine aw_ti (y := nI k) (by rw [nI_clamp (by omega)]; exact hk0.symm) ?_
            refine va_calli (vx_runSW (As := [.ref (aw_r ad 0), .int (nI j), .int (nI k)]) (rest := []) ⟨hx, hb, hml, hown, hG⟩ (k_La_choose1V l hst D g ad N0 zG zO zX zY zA zB zM zI zL zK zN zF zQ j k hj (by omega) (by omega)) (aw_wW 3 hG gw_2_37 gw_2_35 gw_0_0 gw_2_36 rfl rfl hd_La_choose ⟨Nat.le_of_ble_eq_true rfl, Nat.le_of_ble_eq_true rfl⟩) (ag_qS hP hD hSh hU hS) rfl rfl hl.1 rfl (lv_room (Nat.le_of_ble_eq_true rfl)) d_La_law_121 ⟨by omega, by omega⟩) hS (fun _ _ h => h) (fun _ h => h) ?_
            clear hP hD hSh hS
            intro x8 u8 t8 H locs ht _ ex8 hB _ _ hS
            obtain ⟨L, hP, hD, hSh⟩ := hB
            rw [ht] at hP
            clear ht
            subst ex8
            obtain ⟨zG9, ezG9⟩ : ∃ z : Nat → Nat × Nat, v_La_choose1V_zG zG zO j k = z := ⟨_, rfl⟩
            rw [ezG9] at hSh
            obtain ⟨zO10, ezO10⟩ : ∃ z : Nat → Nat, v_La_choose1V_zO zG zO j k = z := ⟨_, rfl⟩
            rw [ezO10] at hSh
            refine lv_istore hx hb d_La_law_124 hl (by decide) rfl (fun ls hl => ?_)
            have hl : lv_has ls 8 [(5, .int (nI 0)), (0, .ref b), (1, .ref (aw_r ad 0)), (2, .ref (aw_m ad 0)), (3, .ref (aw_o ad)), (4, .int (nI (6 * t)))] := hl
            refine lv_aload_n hx hb d_La_law_126 rfl (lv_at hl 3 rfl) ?_
            refine lv_aload_n hx hb d_La_law_127 rfl (lv_at hl 1 rfl) ?_
            refine lv_iload hx hb d_La_law_128 (lv_at hl 5 rfl) ?_
            refine lv_iconst (v := nI 1) hx hb d_La_law_130 (by decide +kernel) ?_
            refine lv_iadd hx hb d_La_law_131 ?_
            refine aw_ti (nI_add (6 * t) 1) ?_
            refine va_sld hx hb hX hbl hbA hS (i := (nI ((6 * t) + 1))) (vp_in_nI (by omega) (by omega)) d_La_law_132 ?_
            refine aw_ti (y := nI j) (by rw [nI_clamp (by omega)]; exact hc0.symm) ?_
            refine lv_aload_n hx hb d_La_law_133 rfl (lv_at hl 1 rfl) ?_
            refine lv_iload hx hb d_La_law_134 (lv_at hl 5 rfl) ?_
            refine lv_iconst (v := nI 2) hx hb d_La_law_136 (by decide +kernel) ?_
            refine lv_iadd hx hb d_La_law_137 ?_
            refine aw_ti (nI_add (6 * t) 2) ?_
            refine va_sld hx hb hX hbl hbA hS (i := (nI ((6 * t) + 2))) (vp_in_nI (by omega) (by omega)) d_La_law_138 ?_
            refine aw_ti (y := nI k) (by rw [nI_clamp (by omega)]; exact hk0.symm) ?_
            obtain ⟨_, he11⟩ := zr_M0 hSh
            refine va_callv (va_runV (As := [.int (nI j), .int (nI k)]) (rest := []) ⟨hx, hb, hml, hown, hG⟩ (k_Mo_choose1V l D g ad N0 zG9 zO10 zX zY zA zB zM zI zL zK zN zF zQ j k hj (by omega) (by omega)) (aw_wV 2 hG gw_10_31 gw_10_28 gw_0_10 gw_10_29 gw_10_30 rfl rfl hd_Mo_choose ⟨Nat.le_of_ble_eq_true rfl, Nat.le_of_ble_eq_true rfl⟩) (ag_qV (va_recv hK hP rfl he11) hP hD hSh hU hS) rfl rfl hl.1 rfl (lv_room (Nat.le_of_ble_eq_true rfl)) d_La_law_139 ⟨by omega, by omega⟩) hS (fun _ _ h => h) (fun _ h => h) ?_
            clear hP hD hSh hS he11
            intro u8 t8 H locs ht _ _ hB _ _ hS
            obtain ⟨L, hP, hD, hSh⟩ := hB
            rw [ht] at hP
            clear ht
            obtain ⟨zM12, ezM12⟩ : ∃ z : Nat → Nat × Nat, v_Mo_choose1V_zM zM zI j k = z := ⟨_, rfl⟩
            rw [ezM12] at hSh
            obtain ⟨zI13, ezI13⟩ : ∃ z : Nat → Nat → Int32, v_Mo_choose1V_zI zM zI j k = z := ⟨_, rfl⟩
            rw [ezI13] at hSh
            refine lv_goto (tgt := 853) hx hb d_La_law_142 (by decide) ?_
            refine lv_iinc (k := 5) (v := nI (6 * t + 6)) hx hb d_La_law_853 hl rfl (aw_inc (6 * t) 6 6 (by decide +kernel)) (by decide) rfl (fun ls hl => ?_)
            have hl : lv_has ls 8 [(4, .int (nI (6 * t + 6))), (5, .int (nI 0)), (0, .ref b), (1, .ref (aw_r ad 0)), (2, .ref (aw_m ad 0)), (3, .ref (aw_o ad))] := hl
            refine lv_goto (tgt := 23) hx hb d_La_law_856 (by decide) ?_
            have hl := lv_sub hl (l' := [(0, .ref b), (1, .ref (aw_r ad 0)), (2, .ref (aw_m ad 0)), (3, .ref (aw_o ad)), (4, .int (nI (6 * t + 6)))]) [2, 3, 4, 5, 0] rfl
            refine W.widen (k := 85 + (t + 1)) (n := 1246 + 6 * (t + 1)) (by omega) (by omega) ?_
            have hR : az_R zG9 zO10 zX zY zA zB zM12 zI13 zL := by
              subst ezI13 ezM12 ezO10 ezG9
              exact r_choose1 hR hj hk hs
            exact ih (t + 1) zG9 zO10 zX zY zA zB zM12 zI13 zL zK zN (nI 0) zQ _ _ L ls (by omega) hP hD hSh hR hS (by first | exact hl | simpa [Nat.mul_add] using hl)
          · refine lv_aload_n hx hb d_La_law_108 rfl (lv_at hl 1 rfl) ?_
            refine lv_aload_n hx hb d_La_law_109 rfl (lv_at hl 0 rfl) ?_
            refine lv_iload hx hb d_La_law_110 (lv_at hl 4 rfl) ?_
            refine lv_iconst (v := nI 1) hx hb d_La_law_112 (by decide +kernel) ?_
            refine lv_iadd hx hb d_La_law_113 ?_
            refine aw_ti (nI_add (6 * t) 1) ?_
            refine va_sld hx hb hX hbl hbA hS (i := (nI ((6 * t) + 1))) (vp_in_nI (by omega) (by omega)) d_La_law_114 ?_
            refine aw_ti (y := nI j) (by rw [nI_clamp (by omega)]; exact hc0.symm) ?_
            refine lv_aload_n hx hb d_La_law_115 rfl (lv_at hl 0 rfl) ?_
            refine lv_iload hx hb d_La_law_116 (lv_at hl 4 rfl) ?_
            refine lv_iconst (v := nI 2) hx hb d_La_law_118 (by decide +kernel) ?_
            refine lv_iadd hx hb d_La_law_119 ?_
            refine aw_ti (nI_add (6 * t) 2) ?_
            refine va_sld hx hb hX hbl hbA hS (i := (nI ((6 * t) + 2))) (vp_in_nI (by omega) (by omega)) d_La_law_120 ?_
            refine aw_ti (y := nI k) (by rw [nI_clamp (by omega)]; exact hk0.symm) ?_
            refine va_calli (vx_runSW (As := [.ref (aw_r ad 0), .int (nI j), .int (nI k)]) (rest := []) ⟨hx, hb, hml, hown, hG⟩ (k_La_chooseXsV l hst D g ad N0 zG zO zX zY zA zB zM zI zL zK zN zF zQ j k hj (by omega) (by omega)) (aw_wW 3 hG gw_2_37 gw_2_35 gw_0_0 gw_2_36 rfl rfl hd_La_choose ⟨Nat.le_of_ble_eq_true rfl, Nat.le_of_ble_eq_true rfl⟩) (ag_qS hP hD hSh hU hS) rfl rfl hl.1 rfl (lv_room (Nat.le_of_ble_eq_true rfl)) d_La_law_121 ⟨by omega, by omega⟩) hS (fun _ _ h => h) (fun _ h => h) ?_
            clear hP hD hSh hS
            intro x14 u8 t8 H locs ht _ ex14 hB _ _ hS
            obtain ⟨L, hP, hD, hSh⟩ := hB
            rw [ht] at hP
            clear ht
            subst ex14
            refine lv_istore hx hb d_La_law_124 hl (by decide) rfl (fun ls hl => ?_)
            have hl : lv_has ls 8 [(5, .int (nI 3)), (0, .ref b), (1, .ref (aw_r ad 0)), (2, .ref (aw_m ad 0)), (3, .ref (aw_o ad)), (4, .int (nI (6 * t)))] := hl
            refine lv_aload_n hx hb d_La_law_126 rfl (lv_at hl 3 rfl) ?_
            refine lv_aload_n hx hb d_La_law_127 rfl (lv_at hl 1 rfl) ?_
            refine lv_iload hx hb d_La_law_128 (lv_at hl 5 rfl) ?_
            refine lv_iconst (v := nI 1) hx hb d_La_law_130 (by decide +kernel) ?_
            refine lv_iadd hx hb d_La_law_131 ?_
            refine aw_ti (nI_add (6 * t) 1) ?_
            refine va_sld hx hb hX hbl hbA hS (i := (nI ((6 * t) + 1))) (vp_in_nI (by omega) (by omega)) d_La_law_132 ?_
            refine aw_ti (y := nI j) (by rw [nI_clamp (by omega)]; exact hc0.symm) ?_
            refine lv_aload_n hx hb d_La_law_133 rfl (lv_at hl 1 rfl) ?_
            refine lv_iload hx hb d_La_law_134 (lv_at hl 5 rfl) ?_
            refine lv_iconst (v := nI 2) hx hb d_La_law_136 (by decide +kernel) ?_
            refine lv_iadd hx hb d_La_law_137 ?_
            refine aw_ti (nI_add (6 * t) 2) ?_
            refine va_sld hx hb hX hbl hbA hS (i := (nI ((6 * t) + 2))) (vp_in_nI (by omega) (by omega)) d_La_law_138 ?_
            refine aw_ti (y := nI k) (by rw [nI_clamp (by omega)]; exact hk0.symm) ?_
            obtain ⟨_, he15⟩ := zr_M0 hSh
            refine va_callv (va_runV (As := [.int (nI j), .int (nI k)]) (rest := []) ⟨hx, hb, hml, hown, hG⟩ (k_Mo_chooseXsV l D g ad N0 zG zO zX zY zA zB zM zI zL zK zN zF zQ j k hj (by omega) (by omega)) (aw_wV 2 hG gw_10_31 gw_10_28 gw_0_10 gw_10_29 gw_10_30 rfl rfl hd_Mo_choose ⟨Nat.le_of_ble_eq_true rfl, Nat.le_of_ble_eq_true rfl⟩) (ag_qV (va_recv hK hP rfl he15) hP hD hSh hU hS) rfl rfl hl.1 rfl (lv_room (Nat.le_of_ble_eq_true rfl)) d_La_law_139 ⟨by omega, by omega⟩) hS (fun _ _ h => h) (fun _ h => h) ?_
            clear hP hD hSh hS he15
            intro u8 t8 H locs ht _ _ hB _ _ hS
            obtain ⟨L, hP, hD, hSh⟩ := hB
            rw [ht] at hP
            clear ht
            refine lv_goto (tgt := 853) hx hb d_La_law_142 (by decide) ?_
            refine lv_iinc (k := 5) (v := nI (6 * t + 6)) hx hb d_La_law_853 hl rfl (aw_inc (6 * t) 6 6 (by decide +kernel)) (by decide) rfl (fun ls hl => ?_)
            have hl : lv_has ls 8 [(4, .int (nI (6 * t + 6))), (5, .int (nI 3)), (0, .ref b), (1, .ref (aw_r ad 0)), (2, .ref (aw_m ad 0)), (3, .ref (aw_o ad))] := hl
            refine lv_goto (tgt := 23) hx hb d_La_law_856 (by decide) ?_
            have hl := lv_sub hl (l' := [(0, .ref b), (1, .ref (aw_r ad 0)), (2, .ref (aw_m ad 0)), (3, .ref (aw_o ad)), (4, .int (nI (6 * t + 6)))]) [2, 3, 4, 5, 0] rfl
            refine W.widen (k := 85 + (t + 1)) (n := 1246 + 6 * (t + 1)) (by omega) (by omega) ?_
            exact ih (t + 1) zG zO zX zY zA zB zM zI zL zK zN (nI 3) zQ _ _ L ls (by omega) hP hD hSh hR hS (by first | exact hl | simpa [Nat.mul_add] using hl)
    · refine aw_ti (y := nI 1) (by rw [hs3]) ?_
      refine lv_tableIn (tgt := 145) (off := 105) hx hb d_La_law_40 (by decide +kernel) (by decide +kernel) (by decide +kernel) (by decide) ?_
      obtain ⟨c0, hc0⟩ : ∃ z : Int32, z = xs (6 * t + 1) := ⟨_, rfl⟩
      obtain ⟨s2, hs2⟩ : ∃ z : Int32, z = xs (6 * t + 2) := ⟨_, rfl⟩
      obtain ⟨s3, hs3⟩ : ∃ z : Int32, z = xs (6 * t + 3) := ⟨_, rfl⟩
      obtain ⟨s4, hs4⟩ : ∃ z : Int32, z = xs (6 * t + 4) := ⟨_, rfl⟩
      obtain ⟨s5, hs5⟩ : ∃ z : Int32, z = xs (6 * t + 5) := ⟨_, rfl⟩
      rcases aw_rng 4 (by decide) c0 with hc | ⟨j, hj, rfl⟩
      · refine lv_aload_n hx hb d_La_law_145 rfl (lv_at hl 1 rfl) ?_
        refine lv_aload_n hx hb d_La_law_146 rfl (lv_at hl 0 rfl) ?_
        refine lv_iload hx hb d_La_law_147 (lv_at hl 4 rfl) ?_
        refine lv_iconst (v := nI 1) hx hb d_La_law_149 (by decide +kernel) ?_
        refine lv_iadd hx hb d_La_law_150 ?_
        refine aw_ti (nI_add (6 * t) 1) ?_
        refine va_sld hx hb hX hbl hbA hS (i := (nI ((6 * t) + 1))) (vp_in_nI (by omega) (by omega)) d_La_law_151 ?_
        refine aw_ti (y := c0) (by rw [nI_clamp (by omega)]; exact hc0.symm) ?_
        refine lv_aload_n hx hb d_La_law_152 rfl (lv_at hl 0 rfl) ?_
        refine lv_iload hx hb d_La_law_153 (lv_at hl 4 rfl) ?_
        refine lv_iconst (v := nI 2) hx hb d_La_law_155 (by decide +kernel) ?_
        refine lv_iadd hx hb d_La_law_156 ?_
        refine aw_ti (nI_add (6 * t) 2) ?_
        refine va_sld hx hb hX hbl hbA hS (i := (nI ((6 * t) + 2))) (vp_in_nI (by omega) (by omega)) d_La_law_157 ?_
        refine aw_ti (y := s2) (by rw [nI_clamp (by omega)]; exact hs2.symm) ?_
        refine lv_i2l hx hb d_La_law_158 rfl ?_
        refine ag_topl (fun y16 ey16 => ?_)
        refine lv_bipush (v := nI 32) hx hb d_La_law_159 (by decide +kernel) ?_
        refine lv_lshl hx hb d_La_law_161 rfl ?_
        refine ag_topl (fun y17 ey17 => ?_)
        refine lv_aload_n hx hb d_La_law_162 rfl (lv_at hl 0 rfl) ?_
        refine lv_iload hx hb d_La_law_163 (lv_at hl 4 rfl) ?_
        refine lv_iconst (v := nI 3) hx hb d_La_law_165 (by decide +kernel) ?_
        refine lv_iadd hx hb d_La_law_166 ?_
        refine aw_ti (nI_add (6 * t) 3) ?_
        refine va_sld hx hb hX hbl hbA hS (i := (nI ((6 * t) + 3))) (vp_in_nI (by omega) (by omega)) d_La_law_167 ?_
        refine aw_ti (y := s3) (by rw [nI_clamp (by omega)]; exact hs3.symm) ?_
        refine lv_i2l hx hb d_La_law_168 rfl ?_
        refine ag_topl (fun y18 ey18 => ?_)
        refine lv_ldc2 (v := 4294967295) hx hb hown (hG _ gw_13_3) d_La_law_169 ?_
        refine lv_land hx hb d_La_law_172 ?_
        refine ag_topl (fun y19 ey19 => ?_)
        refine lv_lor hx hb d_La_law_173 ?_
        refine ag_topl (fun y20 ey20 => ?_)
        refine lv_aload_n hx hb d_La_law_174 rfl (lv_at hl 0 rfl) ?_
        refine lv_iload hx hb d_La_law_175 (lv_at hl 4 rfl) ?_
        refine lv_iconst (v := nI 4) hx hb d_La_law_177 (by decide +kernel) ?_
        refine lv_iadd hx hb d_La_law_178 ?_
        refine aw_ti (nI_add (6 * t) 4) ?_
        refine va_sld hx hb hX hbl hbA hS (i := (nI ((6 * t) + 4))) (vp_in_nI (by omega) (by omega)) d_La_law_179 ?_
        refine aw_ti (y := s4) (by rw [nI_clamp (by omega)]; exact hs4.symm) ?_
        refine lv_i2l hx hb d_La_law_180 rfl ?_
        refine ag_topl (fun y21 ey21 => ?_)
        refine lv_bipush (v := nI 32) hx hb d_La_law_181 (by decide +kernel) ?_
        refine lv_lshl hx hb d_La_law_183 rfl ?_
        refine ag_topl (fun y22 ey22 => ?_)
        refine lv_aload_n hx hb d_La_law_184 rfl (lv_at hl 0 rfl) ?_
        refine lv_iload hx hb d_La_law_185 (lv_at hl 4 rfl) ?_
        refine lv_iconst (v := nI 5) hx hb d_La_law_187 (by decide +kernel) ?_
        refine lv_iadd hx hb d_La_law_188 ?_
        refine aw_ti (nI_add (6 * t) 5) ?_
        refine va_sld hx hb hX hbl hbA hS (i := (nI ((6 * t) + 5))) (vp_in_nI (by omega) (by omega)) d_La_law_189 ?_
        refine aw_ti (y := s5) (by rw [nI_clamp (by omega)]; exact hs5.symm) ?_
        refine lv_i2l hx hb d_La_law_190 rfl ?_
        refine ag_topl (fun y23 ey23 => ?_)
        refine lv_ldc2 (v := 4294967295) hx hb hown (hG _ gw_13_3) d_La_law_191 ?_
        refine lv_land hx hb d_La_law_194 ?_
        refine ag_topl (fun y24 ey24 => ?_)
        refine lv_lor hx hb d_La_law_195 ?_
        refine ag_topl (fun y25 ey25 => ?_)
        refine va_calli (vx_runSW (As := [.ref (aw_r ad 0), .int c0, .long y20, .long y25]) (rest := []) ⟨hx, hb, hml, hown, hG⟩ (k_La_keyXcV l hst D g ad N0 zG zO zX zY zA zB zM zI zL zK zN zF zQ c0 y20 y25 hc) (aw_wW 4 hG gw_4_19 gw_4_17 gw_0_0 gw_4_18 rfl rfl hd_La_key ⟨Nat.le_of_ble_eq_true rfl, Nat.le_of_ble_eq_true rfl⟩) (ag_qS hP hD hSh hU hS) rfl rfl hl.1 rfl (lv_room (Nat.le_of_ble_eq_true rfl)) d_La_law_196 ⟨by omega, by omega⟩) hS (fun _ _ h => h) (fun _ h => h) ?_
        clear hP hD hSh hS
        intro x26 u8 t8 H locs ht _ ex26 hB _ _ hS
        obtain ⟨L, hP, hD, hSh⟩ := hB
        rw [ht] at hP
        clear ht
        subst ex26
        refine lv_istore hx hb d_La_law_199 hl (by decide) rfl (fun ls hl => ?_)
        have hl : lv_has ls 8 [(5, .int (nI 1)), (0, .ref b), (1, .ref (aw_r ad 0)), (2, .ref (aw_m ad 0)), (3, .ref (aw_o ad)), (4, .int (nI (6 * t)))] := hl
        refine lv_aload_n hx hb d_La_law_201 rfl (lv_at hl 3 rfl) ?_
        refine lv_aload_n hx hb d_La_law_202 rfl (lv_at hl 1 rfl) ?_
        refine lv_iload hx hb d_La_law_203 (lv_at hl 5 rfl) ?_
        refine lv_iconst (v := nI 1) hx hb d_La_law_205 (by decide +kernel) ?_
        refine lv_iadd hx hb d_La_law_206 ?_
        refine aw_ti (nI_add (6 * t) 1) ?_
        refine va_sld hx hb hX hbl hbA hS (i := (nI ((6 * t) + 1))) (vp_in_nI (by omega) (by omega)) d_La_law_207 ?_
        refine aw_ti (y := c0) (by rw [nI_clamp (by omega)]; exact hc0.symm) ?_
        refine lv_aload_n hx hb d_La_law_208 rfl (lv_at hl 1 rfl) ?_
        refine lv_iload hx hb d_La_law_209 (lv_at hl 5 rfl) ?_
        refine lv_iconst (v := nI 2) hx hb d_La_law_211 (by decide +kernel) ?_
        refine lv_iadd hx hb d_La_law_212 ?_
        refine aw_ti (nI_add (6 * t) 2) ?_
        refine va_sld hx hb hX hbl hbA hS (i := (nI ((6 * t) + 2))) (vp_in_nI (by omega) (by omega)) d_La_law_213 ?_
        refine aw_ti (y := s2) (by rw [nI_clamp (by omega)]; exact hs2.symm) ?_
        refine lv_i2l hx hb d_La_law_214 rfl ?_
        refine ag_topl (fun y27 ey27 => ?_)
        refine lv_bipush (v := nI 32) hx hb d_La_law_215 (by decide +kernel) ?_
        refine lv_lshl hx hb d_La_law_217 rfl ?_
        refine ag_topl (fun y28 ey28 => ?_)
        refine lv_aload_n hx hb d_La_law_218 rfl (lv_at hl 1 rfl) ?_
        refine lv_iload hx hb d_La_law_219 (lv_at hl 5 rfl) ?_
        refine lv_iconst (v := nI 3) hx hb d_La_law_221 (by decide +kernel) ?_
        refine lv_iadd hx hb d_La_law_222 ?_
        refine aw_ti (nI_add (6 * t) 3) ?_
        refine va_sld hx hb hX hbl hbA hS (i := (nI ((6 * t) + 3))) (vp_in_nI (by omega) (by omega)) d_La_law_223 ?_
        refine aw_ti (y := s3) (by rw [nI_clamp (by omega)]; exact hs3.symm) ?_
        refine lv_i2l hx hb d_La_law_224 rfl ?_
        refine ag_topl (fun y29 ey29 => ?_)
        refine lv_ldc2 (v := 4294967295) hx hb hown (hG _ gw_13_3) d_La_law_225 ?_
        refine lv_land hx hb d_La_law_228 ?_
        refine ag_topl (fun y30 ey30 => ?_)
        refine lv_lor hx hb d_La_law_229 ?_
        refine ag_topl (fun y31 ey31 => ?_)
        refine lv_aload_n hx hb d_La_law_230 rfl (lv_at hl 1 rfl) ?_
        refine lv_iload hx hb d_La_law_231 (lv_at hl 5 rfl) ?_
        refine lv_iconst (v := nI 4) hx hb d_La_law_233 (by decide +kernel) ?_
        refine lv_iadd hx hb d_La_law_234 ?_
        refine aw_ti (nI_add (6 * t) 4) ?_
        refine va_sld hx hb hX hbl hbA hS (i := (nI ((6 * t) + 4))) (vp_in_nI (by omega) (by omega)) d_La_law_235 ?_
        refine aw_ti (y := s4) (by rw [nI_clamp (by omega)]; exact hs4.symm) ?_
        refine lv_i2l hx hb d_La_law_236 rfl ?_
        refine ag_topl (fun y32 ey32 => ?_)
        refine lv_bipush (v := nI 32) hx hb d_La_law_237 (by decide +kernel) ?_
        refine lv_lshl hx hb d_La_law_239 rfl ?_
        refine ag_topl (fun y33 ey33 => ?_)
        refine lv_aload_n hx hb d_La_law_240 rfl (lv_at hl 1 rfl) ?_
        refine lv_iload hx hb d_La_law_241 (lv_at hl 5 rfl) ?_
        refine lv_iconst (v := nI 5) hx hb d_La_law_243 (by decide +kernel) ?_
        refine lv_iadd hx hb d_La_law_244 ?_
        refine aw_ti (nI_add (6 * t) 5) ?_
        refine va_sld hx hb hX hbl hbA hS (i := (nI ((6 * t) + 5))) (vp_in_nI (by omega) (by omega)) d_La_law_245 ?_
        refine aw_ti (y := s5) (by rw [nI_clamp (by omega)]; exact hs5.symm) ?_
        refine lv_i2l hx hb d_La_law_246 rfl ?_
        refine ag_topl (fun y34 ey34 => ?_)
        refine lv_ldc2 (v := 4294967295) hx hb hown (hG _ gw_13_3) d_La_law_247 ?_
        refine lv_land hx hb d_La_law_250 ?_
        refine ag_topl (fun y35 ey35 => ?_)
        refine lv_lor hx hb d_La_law_251 ?_
        refine ag_topl (fun y36 ey36 => ?_)
        obtain ⟨_, he37⟩ := zr_M0 hSh
        refine va_callv (va_runV (As := [.int c0, .long y31, .long y36]) (rest := []) ⟨hx, hb, hml, hown, hG⟩ (k_Mo_keyXcV l D g ad N0 zG zO zX zY zA zB zM zI zL zK zN zF zQ c0 y31 y36 hc) (aw_wV 3 hG gw_10_41 gw_10_38 gw_0_10 gw_10_39 gw_10_40 rfl rfl hd_Mo_key ⟨Nat.le_of_ble_eq_true rfl, Nat.le_of_ble_eq_true rfl⟩) (ag_qV (va_recv hK hP rfl he37) hP hD hSh hU hS) rfl rfl hl.1 rfl (lv_room (Nat.le_of_ble_eq_true rfl)) d_La_law_252 ⟨by omega, by omega⟩) hS (fun _ _ h => h) (fun _ h => h) ?_
        clear hP hD hSh hS he37
        intro u8 t8 H locs ht _ _ hB _ _ hS
        obtain ⟨L, hP, hD, hSh⟩ := hB
        rw [ht] at hP
        clear ht
        refine lv_goto (tgt := 853) hx hb d_La_law_255 (by decide) ?_
        refine lv_iinc (k := 5) (v := nI (6 * t + 6)) hx hb d_La_law_853 hl rfl (aw_inc (6 * t) 6 6 (by decide +kernel)) (by decide) rfl (fun ls hl => ?_)
        have hl : lv_has ls 8 [(4, .int (nI (6 * t + 6))), (5, .int (nI 1)), (0, .ref b), (1, .ref (aw_r ad 0)), (2, .ref (aw_m ad 0)), (3, .ref (aw_o ad))] := hl
        refine lv_goto (tgt := 23) hx hb d_La_law_856 (by decide) ?_
        have hl := lv_sub hl (l' := [(0, .ref b), (1, .ref (aw_r ad 0)), (2, .ref (aw_m ad 0)), (3, .ref (aw_o ad)), (4, .int (nI (6 * t + 6)))]) [2, 3, 4, 5, 0] rfl
        refine W.widen (k := 85 + (t + 1)) (n := 1246 + 6 * (t + 1)) (by omega) (by omega) ?_
        exact ih (t + 1) zG zO zX zY zA zB zM zI zL zK zN (nI 1) zQ _ _ L ls (by omega) hP hD hSh hR hS (by first | exact hl | simpa [Nat.mul_add] using hl)
      · have hgj := hSh.2.2.2.2.1 j hj
        have hq1 : (zM j).1 = (zG j).1 := by rw [hR.1 j hj]
        have hq2 : (zM j).2 = (zG j).2 := by rw [hR.1 j hj]
        by_cases hs : (zG j).1 = 0
        · refine lv_aload_n hx hb d_La_law_145 rfl (lv_at hl 1 rfl) ?_
          refine lv_aload_n hx hb d_La_law_146 rfl (lv_at hl 0 rfl) ?_
          refine lv_iload hx hb d_La_law_147 (lv_at hl 4 rfl) ?_
          refine lv_iconst (v := nI 1) hx hb d_La_law_149 (by decide +kernel) ?_
          refine lv_iadd hx hb d_La_law_150 ?_
          refine aw_ti (nI_add (6 * t) 1) ?_
          refine va_sld hx hb hX hbl hbA hS (i := (nI ((6 * t) + 1))) (vp_in_nI (by omega) (by omega)) d_La_law_151 ?_
          refine aw_ti (y := nI j) (by rw [nI_clamp (by omega)]; exact hc0.symm) ?_
          refine lv_aload_n hx hb d_La_law_152 rfl (lv_at hl 0 rfl) ?_
          refine lv_iload hx hb d_La_law_153 (lv_at hl 4 rfl) ?_
          refine lv_iconst (v := nI 2) hx hb d_La_law_155 (by decide +kernel) ?_
          refine lv_iadd hx hb d_La_law_156 ?_
          refine aw_ti (nI_add (6 * t) 2) ?_
          refine va_sld hx hb hX hbl hbA hS (i := (nI ((6 * t) + 2))) (vp_in_nI (by omega) (by omega)) d_La_law_157 ?_
          refine aw_ti (y := s2) (by rw [nI_clamp (by omega)]; exact hs2.symm) ?_
          refine lv_i2l hx hb d_La_law_158 rfl ?_
          refine ag_topl (fun y38 ey38 => ?_)
          refine lv_bipush (v := nI 32) hx hb d_La_law_159 (by decide +kernel) ?_
          refine lv_lshl hx hb d_La_law_161 rfl ?_
          refine ag_topl (fun y39 ey39 => ?_)
          refine lv_aload_n hx hb d_La_law_162 rfl (lv_at hl 0 rfl) ?_
          refine lv_iload hx hb d_La_law_163 (lv_at hl 4 rfl) ?_
          refine lv_iconst (v := nI 3) hx hb d_La_law_165 (by decide +kernel) ?_
          refine lv_iadd hx hb d_La_law_166 ?_
          refine aw_ti (nI_add (6 * t) 3) ?_
          refine va_sld hx hb hX hbl hbA hS (i := (nI ((6 * t) + 3))) (vp_in_nI (by omega) (by omega)) d_La_law_167 ?_
          refine aw_ti (y := s3) (by rw [nI_clamp (by omega)]; exact hs3.symm) ?_
          refine lv_i2l hx hb d_La_law_168 rfl ?_
          refine ag_topl (fun y40 ey40 => ?_)
          refine lv_ldc2 (v := 4294967295) hx hb hown (hG _ gw_13_3) d_La_law_169 ?_
          refine lv_land hx hb d_La_law_172 ?_
          refine ag_topl (fun y41 ey41 => ?_)
          refine lv_lor hx hb d_La_law_173 ?_
          refine ag_topl (fun y42 ey42 => ?_)
          refine lv_aload_n hx hb d_La_law_174 rfl (lv_at hl 0 rfl) ?_
          refine lv_iload hx hb d_La_law_175 (lv_at hl 4 rfl) ?_
          refine lv_iconst (v := nI 4) hx hb d_La_law_177 (by decide +kernel) ?_
          refine lv_iadd hx hb d_La_law_178 ?_
          refine aw_ti (nI_add (6 * t) 4) ?_
          refine va_sld hx hb hX hbl hbA hS (i := (nI ((6 * t) + 4))) (vp_in_nI (by omega) (by omega)) d_La_law_179 ?_
          refine aw_ti (y := s4) (by rw [nI_clamp (by omega)]; exact hs4.symm) ?_
          refine lv_i2l hx hb d_La_law_180 rfl ?_
          refine ag_topl (fun y43 ey43 => ?_)
          refine lv_bipush (v := nI 32) hx hb d_La_law_181 (by decide +kernel) ?_
          refine lv_lshl hx hb d_La_law_183 rfl ?_
          refine ag_topl (fun y44 ey44 => ?_)
          refine lv_aload_n hx hb d_La_law_184 rfl (lv_at hl 0 rfl) ?_
          refine lv_iload hx hb d_La_law_185 (lv_at hl 4 rfl) ?_
          refine lv_iconst (v := nI 5) hx hb d_La_law_187 (by decide +kernel) ?_
          refine lv_iadd hx hb d_La_law_188 ?_
          refine aw_ti (nI_add (6 * t) 5) ?_
          refine va_sld hx hb hX hbl hbA hS (i := (nI ((6 * t) + 5))) (vp_in_nI (by omega) (by omega)) d_La_law_189 ?_
          refine aw_ti (y := s5) (by rw [nI_clamp (by omega)]; exact hs5.symm) ?_
          refine lv_i2l hx hb d_La_law_190 rfl ?_
          refine ag_topl (fun y45 ey45 => ?_)
          refine lv_ldc2 (v := 4294967295) hx hb hown (hG _ gw_13_3) d_La_law_191 ?_
          refine lv_land hx hb d_La_law_194 ?_
          refine ag_topl (fun y46 ey46 => ?_)
          refine lv_lor hx hb d_La_law_195 ?_
          refine ag_topl (fun y47 ey47 => ?_)
          refine va_calli (vx_runSW (As := [.ref (aw_r ad 0), .int (nI j), .long y42, .long y47]) (rest := []) ⟨hx, hb, hml, hown, hG⟩ (k_La_keyXsV l hst D g ad N0 zG zO zX zY zA zB zM zI zL zK zN zF zQ j y42 y47 hj (by omega)) (aw_wW 4 hG gw_4_19 gw_4_17 gw_0_0 gw_4_18 rfl rfl hd_La_key ⟨Nat.le_of_ble_eq_true rfl, Nat.le_of_ble_eq_true rfl⟩) (ag_qS hP hD hSh hU hS) rfl rfl hl.1 rfl (lv_room (Nat.le_of_ble_eq_true rfl)) d_La_law_196 ⟨by omega, by omega⟩) hS (fun _ _ h => h) (fun _ h => h) ?_
          clear hP hD hSh hS
          intro x48 u8 t8 H locs ht _ ex48 hB _ _ hS
          obtain ⟨L, hP, hD, hSh⟩ := hB
          rw [ht] at hP
          clear ht
          subst ex48
          refine lv_istore hx hb d_La_law_199 hl (by decide) rfl (fun ls hl => ?_)
          have hl : lv_has ls 8 [(5, .int (nI 2)), (0, .ref b), (1, .ref (aw_r ad 0)), (2, .ref (aw_m ad 0)), (3, .ref (aw_o ad)), (4, .int (nI (6 * t)))] := hl
          refine lv_aload_n hx hb d_La_law_201 rfl (lv_at hl 3 rfl) ?_
          refine lv_aload_n hx hb d_La_law_202 rfl (lv_at hl 1 rfl) ?_
          refine lv_iload hx hb d_La_law_203 (lv_at hl 5 rfl) ?_
          refine lv_iconst (v := nI 1) hx hb d_La_law_205 (by decide +kernel) ?_
          refine lv_iadd hx hb d_La_law_206 ?_
          refine aw_ti (nI_add (6 * t) 1) ?_
          refine va_sld hx hb hX hbl hbA hS (i := (nI ((6 * t) + 1))) (vp_in_nI (by omega) (by omega)) d_La_law_207 ?_
          refine aw_ti (y := nI j) (by rw [nI_clamp (by omega)]; exact hc0.symm) ?_
          refine lv_aload_n hx hb d_La_law_208 rfl (lv_at hl 1 rfl) ?_
          refine lv_iload hx hb d_La_law_209 (lv_at hl 5 rfl) ?_
          refine lv_iconst (v := nI 2) hx hb d_La_law_211 (by decide +kernel) ?_
          refine lv_iadd hx hb d_La_law_212 ?_
          refine aw_ti (nI_add (6 * t) 2) ?_
          refine va_sld hx hb hX hbl hbA hS (i := (nI ((6 * t) + 2))) (vp_in_nI (by omega) (by omega)) d_La_law_213 ?_
          refine aw_ti (y := s2) (by rw [nI_clamp (by omega)]; exact hs2.symm) ?_
          refine lv_i2l hx hb d_La_law_214 rfl ?_
          refine ag_topl (fun y49 ey49 => ?_)
          refine lv_bipush (v := nI 32) hx hb d_La_law_215 (by decide +kernel) ?_
          refine lv_lshl hx hb d_La_law_217 rfl ?_
          refine ag_topl (fun y50 ey50 => ?_)
          refine lv_aload_n hx hb d_La_law_218 rfl (lv_at hl 1 rfl) ?_
          refine lv_iload hx hb d_La_law_219 (lv_at hl 5 rfl) ?_
          refine lv_iconst (v := nI 3) hx hb d_La_law_221 (by decide +kernel) ?_
          refine lv_iadd hx hb d_La_law_222 ?_
          refine aw_ti (nI_add (6 * t) 3) ?_
          refine va_sld hx hb hX hbl hbA hS (i := (nI ((6 * t) + 3))) (vp_in_nI (by omega) (by omega)) d_La_law_223 ?_
          refine aw_ti (y := s3) (by rw [nI_clamp (by omega)]; exact hs3.symm) ?_
          refine lv_i2l hx hb d_La_law_224 rfl ?_
          refine ag_topl (fun y51 ey51 => ?_)
          refine lv_ldc2 (v := 4294967295) hx hb hown (hG _ gw_13_3) d_La_law_225 ?_
          refine lv_land hx hb d_La_law_228 ?_
          refine ag_topl (fun y52 ey52 => ?_)
          refine lv_lor hx hb d_La_law_229 ?_
          refine ag_topl (fun y53 ey53 => ?_)
          refine lv_aload_n hx hb d_La_law_230 rfl (lv_at hl 1 rfl) ?_
          refine lv_iload hx hb d_La_law_231 (lv_at hl 5 rfl) ?_
          refine lv_iconst (v := nI 4) hx hb d_La_law_233 (by decide +kernel) ?_
          refine lv_iadd hx hb d_La_law_234 ?_
          refine aw_ti (nI_add (6 * t) 4) ?_
          refine va_sld hx hb hX hbl hbA hS (i := (nI ((6 * t) + 4))) (vp_in_nI (by omega) (by omega)) d_La_law_235 ?_
          refine aw_ti (y := s4) (by rw [nI_clamp (by omega)]; exact hs4.symm) ?_
          refine lv_i2l hx hb d_La_law_236 rfl ?_
          refine ag_topl (fun y54 ey54 => ?_)
          refine lv_bipush (v := nI 32) hx hb d_La_law_237 (by decide +kernel) ?_
          refine lv_lshl hx hb d_La_law_239 rfl ?_
          refine ag_topl (fun y55 ey55 => ?_)
          refine lv_aload_n hx hb d_La_law_240 rfl (lv_at hl 1 rfl) ?_
          refine lv_iload hx hb d_La_law_241 (lv_at hl 5 rfl) ?_
          refine lv_iconst (v := nI 5) hx hb d_La_law_243 (by decide +kernel) ?_
          refine lv_iadd hx hb d_La_law_244 ?_
          refine aw_ti (nI_add (6 * t) 5) ?_
          refine va_sld hx hb hX hbl hbA hS (i := (nI ((6 * t) + 5))) (vp_in_nI (by omega) (by omega)) d_La_law_245 ?_
          refine aw_ti (y := s5) (by rw [nI_clamp (by omega)]; exact hs5.symm) ?_
          refine lv_i2l hx hb d_La_law_246 rfl ?_
          refine ag_topl (fun y56 ey56 => ?_)
          refine lv_ldc2 (v := 4294967295) hx hb hown (hG _ gw_13_3) d_La_law_247 ?_
          refine lv_land hx hb d_La_law_250 ?_
          refine ag_topl (fun y57 ey57 => ?_)
          refine lv_lor hx hb d_La_law_251 ?_
          refine ag_topl (fun y58 ey58 => ?_)
          obtain ⟨_, he59⟩ := zr_M0 hSh
          refine va_callv (va_runV (As := [.int (nI j), .long y53, .long y58]) (rest := []) ⟨hx, hb, hml, hown, hG⟩ (k_Mo_keyXsV l D g ad N0 zG zO zX zY zA zB zM zI zL zK zN zF zQ j y53 y58 hj (by omega)) (aw_wV 3 hG gw_10_41 gw_10_38 gw_0_10 gw_10_39 gw_10_40 rfl rfl hd_Mo_key ⟨Nat.le_of_ble_eq_true rfl, Nat.le_of_ble_eq_true rfl⟩) (ag_qV (va_recv hK hP rfl he59) hP hD hSh hU hS) rfl rfl hl.1 rfl (lv_room (Nat.le_of_ble_eq_true rfl)) d_La_law_252 ⟨by omega, by omega⟩) hS (fun _ _ h => h) (fun _ h => h) ?_
          clear hP hD hSh hS he59
          intro u8 t8 H locs ht _ _ hB _ _ hS
          obtain ⟨L, hP, hD, hSh⟩ := hB
          rw [ht] at hP
          clear ht
          refine lv_goto (tgt := 853) hx hb d_La_law_255 (by decide) ?_
          refine lv_iinc (k := 5) (v := nI (6 * t + 6)) hx hb d_La_law_853 hl rfl (aw_inc (6 * t) 6 6 (by decide +kernel)) (by decide) rfl (fun ls hl => ?_)
          have hl : lv_has ls 8 [(4, .int (nI (6 * t + 6))), (5, .int (nI 2)), (0, .ref b), (1, .ref (aw_r ad 0)), (2, .ref (aw_m ad 0)), (3, .ref (aw_o ad))] := hl
          refine lv_goto (tgt := 23) hx hb d_La_law_856 (by decide) ?_
          have hl := lv_sub hl (l' := [(0, .ref b), (1, .ref (aw_r ad 0)), (2, .ref (aw_m ad 0)), (3, .ref (aw_o ad)), (4, .int (nI (6 * t + 6)))]) [2, 3, 4, 5, 0] rfl
          refine W.widen (k := 85 + (t + 1)) (n := 1246 + 6 * (t + 1)) (by omega) (by omega) ?_
          exact ih (t + 1) zG zO zX zY zA zB zM zI zL zK zN (nI 2) zQ _ _ L ls (by omega) hP hD hSh hR hS (by first | exact hl | simpa [Nat.mul_add] using hl)
        · refine lv_aload_n hx hb d_La_law_145 rfl (lv_at hl 1 rfl) ?_
          refine lv_aload_n hx hb d_La_law_146 rfl (lv_at hl 0 rfl) ?_
          refine lv_iload hx hb d_La_law_147 (lv_at hl 4 rfl) ?_
          refine lv_iconst (v := nI 1) hx hb d_La_law_149 (by decide +kernel) ?_
          refine lv_iadd hx hb d_La_law_150 ?_
          refine aw_ti (nI_add (6 * t) 1) ?_
          refine va_sld hx hb hX hbl hbA hS (i := (nI ((6 * t) + 1))) (vp_in_nI (by omega) (by omega)) d_La_law_151 ?_
          refine aw_ti (y := nI j) (by rw [nI_clamp (by omega)]; exact hc0.symm) ?_
          refine lv_aload_n hx hb d_La_law_152 rfl (lv_at hl 0 rfl) ?_
          refine lv_iload hx hb d_La_law_153 (lv_at hl 4 rfl) ?_
          refine lv_iconst (v := nI 2) hx hb d_La_law_155 (by decide +kernel) ?_
          refine lv_iadd hx hb d_La_law_156 ?_
          refine aw_ti (nI_add (6 * t) 2) ?_
          refine va_sld hx hb hX hbl hbA hS (i := (nI ((6 * t) + 2))) (vp_in_nI (by omega) (by omega)) d_La_law_157 ?_
          refine aw_ti (y := s2) (by rw [nI_clamp (by omega)]; exact hs2.symm) ?_
          refine lv_i2l hx hb d_La_law_158 rfl ?_
          refine ag_topl (fun y60 ey60 => ?_)
          refine lv_bipush (v := nI 32) hx hb d_La_law_159 (by decide +kernel) ?_
          refine lv_lshl hx hb d_La_law_161 rfl ?_
          refine ag_topl (fun y61 ey61 => ?_)
          refine lv_aload_n hx hb d_La_law_162 rfl (lv_at hl 0 rfl) ?_
          refine lv_iload hx hb d_La_law_163 (lv_at hl 4 rfl) ?_
          refine lv_iconst (v := nI 3) hx hb d_La_law_165 (by decide +kernel) ?_
          refine lv_iadd hx hb d_La_law_166 ?_
          refine aw_ti (nI_add (6 * t) 3) ?_
          refine va_sld hx hb hX hbl hbA hS (i := (nI ((6 * t) + 3))) (vp_in_nI (by omega) (by omega)) d_La_law_167 ?_
          refine aw_ti (y := s3) (by rw [nI_clamp (by omega)]; exact hs3.symm) ?_
          refine lv_i2l hx hb d_La_law_168 rfl ?_
          refine ag_topl (fun y62 ey62 => ?_)
          refine lv_ldc2 (v := 4294967295) hx hb hown (hG _ gw_13_3) d_La_law_169 ?_
          refine lv_land hx hb d_La_law_172 ?_
          refine ag_topl (fun y63 ey63 => ?_)
          refine lv_lor hx hb d_La_law_173 ?_
          refine ag_topl (fun y64 ey64 => ?_)
          refine lv_aload_n hx hb d_La_law_174 rfl (lv_at hl 0 rfl) ?_
          refine lv_iload hx hb d_La_law_175 (lv_at hl 4 rfl) ?_
          refine lv_iconst (v := nI 4) hx hb d_La_law_177 (by decide +kernel) ?_
          refine lv_iadd hx hb d_La_law_178 ?_
          refine aw_ti (nI_add (6 * t) 4) ?_
          refine va_sld hx hb hX hbl hbA hS (i := (nI ((6 * t) + 4))) (vp_in_nI (by omega) (by omega)) d_La_law_179 ?_
          refine aw_ti (y := s4) (by rw [nI_clamp (by omega)]; exact hs4.symm) ?_
          refine lv_i2l hx hb d_La_law_180 rfl ?_
          refine ag_topl (fun y65 ey65 => ?_)
          refine lv_bipush (v := nI 32) hx hb d_La_law_181 (by decide +kernel) ?_
          refine lv_lshl hx hb d_La_law_183 rfl ?_
          refine ag_topl (fun y66 ey66 => ?_)
          refine lv_aload_n hx hb d_La_law_184 rfl (lv_at hl 0 rfl) ?_
          refine lv_iload hx hb d_La_law_185 (lv_at hl 4 rfl) ?_
          refine lv_iconst (v := nI 5) hx hb d_La_law_187 (by decide +kernel) ?_
          refine lv_iadd hx hb d_La_law_188 ?_
          refine aw_ti (nI_add (6 * t) 5) ?_
          refine va_sld hx hb hX hbl hbA hS (i := (nI ((6 * t) + 5))) (vp_in_nI (by omega) (by omega)) d_La_law_189 ?_
          refine aw_ti (y := s5) (by rw [nI_clamp (by omega)]; exact hs5.symm) ?_
          refine lv_i2l hx hb d_La_law_190 rfl ?_
          refine ag_topl (fun y67 ey67 => ?_)
          refine lv_ldc2 (v := 4294967295) hx hb hown (hG _ gw_13_3) d_La_law_191 ?_
          refine lv_land hx hb d_La_law_194 ?_
          refine ag_topl (fun y68 ey68 => ?_)
          refine lv_lor hx hb d_La_law_195 ?_
          refine ag_topl (fun y69 ey69 => ?_)
          refine va_calli (vx_runSW (As := [.ref (aw_r ad 0), .int (nI j), .long y64, .long y69]) (rest := []) ⟨hx, hb, hml, hown, hG⟩ (k_La_key1V l hst D g ad N0 zG zO zX zY zA zB zM zI zL zK zN zF zQ j y64 y69 hj (by omega)) (aw_wW 4 hG gw_4_19 gw_4_17 gw_0_0 gw_4_18 rfl rfl hd_La_key ⟨Nat.le_of_ble_eq_true rfl, Nat.le_of_ble_eq_true rfl⟩) (ag_qS hP hD hSh hU hS) rfl rfl hl.1 rfl (lv_room (Nat.le_of_ble_eq_true rfl)) d_La_law_196 ⟨by omega, by omega⟩) hS (fun _ _ h => h) (fun _ h => h) ?_
          clear hP hD hSh hS
          intro x70 u8 t8 H locs ht _ ex70 hB _ _ hS
          obtain ⟨L, hP, hD, hSh⟩ := hB
          rw [ht] at hP
          clear ht
          subst ex70
          obtain ⟨zG71, ezG71⟩ : ∃ z : Nat → Nat × Nat, v_La_key1V_zG zG zO zA j y64 y69 = z := ⟨_, rfl⟩
          rw [ezG71] at hSh
          obtain ⟨zA72, ezA72⟩ : ∃ z : Nat → Nat → Nat → Int32, v_La_key1V_zA zG zO zA j y64 y69 = z := ⟨_, rfl⟩
          rw [ezA72] at hSh
          refine lv_istore hx hb d_La_law_199 hl (by decide) rfl (fun ls hl => ?_)
          have hl : lv_has ls 8 [(5, .int (nI 0)), (0, .ref b), (1, .ref (aw_r ad 0)), (2, .ref (aw_m ad 0)), (3, .ref (aw_o ad)), (4, .int (nI (6 * t)))] := hl
          refine lv_aload_n hx hb d_La_law_201 rfl (lv_at hl 3 rfl) ?_
          refine lv_aload_n hx hb d_La_law_202 rfl (lv_at hl 1 rfl) ?_
          refine lv_iload hx hb d_La_law_203 (lv_at hl 5 rfl) ?_
          refine lv_iconst (v := nI 1) hx hb d_La_law_205 (by decide +kernel) ?_
          refine lv_iadd hx hb d_La_law_206 ?_
          refine aw_ti (nI_add (6 * t) 1) ?_
          refine va_sld hx hb hX hbl hbA hS (i := (nI ((6 * t) + 1))) (vp_in_nI (by omega) (by omega)) d_La_law_207 ?_
          refine aw_ti (y := nI j) (by rw [nI_clamp (by omega)]; exact hc0.symm) ?_
          refine lv_aload_n hx hb d_La_law_208 rfl (lv_at hl 1 rfl) ?_
          refine lv_iload hx hb d_La_law_209 (lv_at hl 5 rfl) ?_
          refine lv_iconst (v := nI 2) hx hb d_La_law_211 (by decide +kernel) ?_
          refine lv_iadd hx hb d_La_law_212 ?_
          refine aw_ti (nI_add (6 * t) 2) ?_
          refine va_sld hx hb hX hbl hbA hS (i := (nI ((6 * t) + 2))) (vp_in_nI (by omega) (by omega)) d_La_law_213 ?_
          refine aw_ti (y := s2) (by rw [nI_clamp (by omega)]; exact hs2.symm) ?_
          refine lv_i2l hx hb d_La_law_214 rfl ?_
          refine ag_topl (fun y73 ey73 => ?_)
          refine lv_bipush (v := nI 32) hx hb d_La_law_215 (by decide +kernel) ?_
          refine lv_lshl hx hb d_La_law_217 rfl ?_
          refine ag_topl (fun y74 ey74 => ?_)
          refine lv_aload_n hx hb d_La_law_218 rfl (lv_at hl 1 rfl) ?_
          refine lv_iload hx hb d_La_law_219 (lv_at hl 5 rfl) ?_
          refine lv_iconst (v := nI 3) hx hb d_La_law_221 (by decide +kernel) ?_
          refine lv_iadd hx hb d_La_law_222 ?_
          refine aw_ti (nI_add (6 * t) 3) ?_
          refine va_sld hx hb hX hbl hbA hS (i := (nI ((6 * t) + 3))) (vp_in_nI (by omega) (by omega)) d_La_law_223 ?_
          refine aw_ti (y := s3) (by rw [nI_clamp (by omega)]; exact hs3.symm) ?_
          refine lv_i2l hx hb d_La_law_224 rfl ?_
          refine ag_topl (fun y75 ey75 => ?_)
          refine lv_ldc2 (v := 4294967295) hx hb hown (hG _ gw_13_3) d_La_law_225 ?_
          refine lv_land hx hb d_La_law_228 ?_
          refine ag_topl (fun y76 ey76 => ?_)
          refine lv_lor hx hb d_La_law_229 ?_
          refine ag_topl (fun y77 ey77 => ?_)
          refine lv_aload_n hx hb d_La_law_230 rfl (lv_at hl 1 rfl) ?_
          refine lv_iload hx hb d_La_law_231 (lv_at hl 5 rfl) ?_
          refine lv_iconst (v := nI 4) hx hb d_La_law_233 (by decide +kernel) ?_
          refine lv_iadd hx hb d_La_law_234 ?_
          refine aw_ti (nI_add (6 * t) 4) ?_
          refine va_sld hx hb hX hbl hbA hS (i := (nI ((6 * t) + 4))) (vp_in_nI (by omega) (by omega)) d_La_law_235 ?_
          refine aw_ti (y := s4) (by rw [nI_clamp (by omega)]; exact hs4.symm) ?_
          refine lv_i2l hx hb d_La_law_236 rfl ?_
          refine ag_topl (fun y78 ey78 => ?_)
          refine lv_bipush (v := nI 32) hx hb d_La_law_237 (by decide +kernel) ?_
          refine lv_lshl hx hb d_La_law_239 rfl ?_
          refine ag_topl (fun y79 ey79 => ?_)
          refine lv_aload_n hx hb d_La_law_240 rfl (lv_at hl 1 rfl) ?_
          refine lv_iload hx hb d_La_law_241 (lv_at hl 5 rfl) ?_
          refine lv_iconst (v := nI 5) hx hb d_La_law_243 (by decide +kernel) ?_
          refine lv_iadd hx hb d_La_law_244 ?_
          refine aw_ti (nI_add (6 * t) 5) ?_
          refine va_sld hx hb hX hbl hbA hS (i := (nI ((6 * t) + 5))) (vp_in_nI (by omega) (by omega)) d_La_law_245 ?_
          refine aw_ti (y := s5) (by rw [nI_clamp (by omega)]; exact hs5.symm) ?_
          refine lv_i2l hx hb d_La_law_246 rfl ?_
          refine ag_topl (fun y80 ey80 => ?_)
          refine lv_ldc2 (v := 4294967295) hx hb hown (hG _ gw_13_3) d_La_law_247 ?_
          refine lv_land hx hb d_La_law_250 ?_
          refine ag_topl (fun y81 ey81 => ?_)
          refine lv_lor hx hb d_La_law_251 ?_
          refine ag_topl (fun y82 ey82 => ?_)
          obtain ⟨_, he83⟩ := zr_M0 hSh
          refine va_callv (va_runV (As := [.int (nI j), .long y77, .long y82]) (rest := []) ⟨hx, hb, hml, hown, hG⟩ (k_Mo_key1V l D g ad N0 zG71 zO zX zY zA72 zB zM zI zL zK zN zF zQ j y77 y82 hj (by omega)) (aw_wV 3 hG gw_10_41 gw_10_38 gw_0_10 gw_10_39 gw_10_40 rfl rfl hd_Mo_key ⟨Nat.le_of_ble_eq_true rfl, Nat.le_of_ble_eq_true rfl⟩) (ag_qV (va_recv hK hP rfl he83) hP hD hSh hU hS) rfl rfl hl.1 rfl (lv_room (Nat.le_of_ble_eq_true rfl)) d_La_law_252 ⟨by omega, by omega⟩) hS (fun _ _ h => h) (fun _ h => h) ?_
          clear hP hD hSh hS he83
          intro u8 t8 H locs ht _ _ hB _ _ hS
          obtain ⟨L, hP, hD, hSh⟩ := hB
          rw [ht] at hP
          clear ht
          obtain ⟨zM84, ezM84⟩ : ∃ z : Nat → Nat × Nat, v_Mo_key1V_zM zM zI zL j y77 y82 = z := ⟨_, rfl⟩
          rw [ezM84] at hSh
          obtain ⟨zI85, ezI85⟩ : ∃ z : Nat → Nat → Int32, v_Mo_key1V_zI zM zI zL j y77 y82 = z := ⟨_, rfl⟩
          rw [ezI85] at hSh
          obtain ⟨zL86, ezL86⟩ : ∃ z : Nat → Nat → Int64, v_Mo_key1V_zL zM zI zL j y77 y82 = z := ⟨_, rfl⟩
          rw [ezL86] at hSh
          refine lv_goto (tgt := 853) hx hb d_La_law_255 (by decide) ?_
          refine lv_iinc (k := 5) (v := nI (6 * t + 6)) hx hb d_La_law_853 hl rfl (aw_inc (6 * t) 6 6 (by decide +kernel)) (by decide) rfl (fun ls hl => ?_)
          have hl : lv_has ls 8 [(4, .int (nI (6 * t + 6))), (5, .int (nI 0)), (0, .ref b), (1, .ref (aw_r ad 0)), (2, .ref (aw_m ad 0)), (3, .ref (aw_o ad))] := hl
          refine lv_goto (tgt := 23) hx hb d_La_law_856 (by decide) ?_
          have hl := lv_sub hl (l' := [(0, .ref b), (1, .ref (aw_r ad 0)), (2, .ref (aw_m ad 0)), (3, .ref (aw_o ad)), (4, .int (nI (6 * t + 6)))]) [2, 3, 4, 5, 0] rfl
          refine W.widen (k := 85 + (t + 1)) (n := 1246 + 6 * (t + 1)) (by omega) (by omega) ?_
          have hR : az_R zG71 zO zX zY zA72 zB zM84 zI85 zL86 := by
            subst ezL86 ezI85 ezM84 ey82 ey81 ey80 ey79 ey78 ey77 ey76 ey75 ey74 ey73 ezA72 ezG71 ey69 ey68 ey67 ey66 ey65 ey64 ey63 ey62 ey61 ey60
            exact r_key1 hR hj hs
          exact ih (t + 1) zG71 zO zX zY zA72 zB zM84 zI85 zL86 zK zN (nI 0) zQ _ _ L ls (by omega) hP hD hSh hR hS (by first | exact hl | simpa [Nat.mul_add] using hl)
    · refine aw_ti (y := nI 2) (by rw [hs3]) ?_
      refine lv_tableIn (tgt := 258) (off := 218) hx hb d_La_law_40 (by decide +kernel) (by decide +kernel) (by decide +kernel) (by decide) ?_
      obtain ⟨c0, hc0⟩ : ∃ z : Int32, z = xs (6 * t + 1) := ⟨_, rfl⟩
      obtain ⟨k0, hk0⟩ : ∃ z : Int32, z = xs (6 * t + 2) := ⟨_, rfl⟩
      obtain ⟨s3, hs3⟩ : ∃ z : Int32, z = xs (6 * t + 3) := ⟨_, rfl⟩
      obtain ⟨s4, hs4⟩ : ∃ z : Int32, z = xs (6 * t + 4) := ⟨_, rfl⟩
      rcases aw_rng 4 (by decide) c0 with hc | ⟨j, hj, rfl⟩
      · refine lv_aload_n hx hb d_La_law_258 rfl (lv_at hl 1 rfl) ?_
        refine lv_aload_n hx hb d_La_law_259 rfl (lv_at hl 0 rfl) ?_
        refine lv_iload hx hb d_La_law_260 (lv_at hl 4 rfl) ?_
        refine lv_iconst (v := nI 1) hx hb d_La_law_262 (by decide +kernel) ?_
        refine lv_iadd hx hb d_La_law_263 ?_
        refine aw_ti (nI_add (6 * t) 1) ?_
        refine va_sld hx hb hX hbl hbA hS (i := (nI ((6 * t) + 1))) (vp_in_nI (by omega) (by omega)) d_La_law_264 ?_
        refine aw_ti (y := c0) (by rw [nI_clamp (by omega)]; exact hc0.symm) ?_
        refine lv_aload_n hx hb d_La_law_265 rfl (lv_at hl 0 rfl) ?_
        refine lv_iload hx hb d_La_law_266 (lv_at hl 4 rfl) ?_
        refine lv_iconst (v := nI 2) hx hb d_La_law_268 (by decide +kernel) ?_
        refine lv_iadd hx hb d_La_law_269 ?_
        refine aw_ti (nI_add (6 * t) 2) ?_
        refine va_sld hx hb hX hbl hbA hS (i := (nI ((6 * t) + 2))) (vp_in_nI (by omega) (by omega)) d_La_law_270 ?_
        refine aw_ti (y := k0) (by rw [nI_clamp (by omega)]; exact hk0.symm) ?_
        refine lv_aload_n hx hb d_La_law_271 rfl (lv_at hl 0 rfl) ?_
        refine lv_iload hx hb d_La_law_272 (lv_at hl 4 rfl) ?_
        refine lv_iconst (v := nI 3) hx hb d_La_law_274 (by decide +kernel) ?_
        refine lv_iadd hx hb d_La_law_275 ?_
        refine aw_ti (nI_add (6 * t) 3) ?_
        refine va_sld hx hb hX hbl hbA hS (i := (nI ((6 * t) + 3))) (vp_in_nI (by omega) (by omega)) d_La_law_276 ?_
        refine aw_ti (y := s3) (by rw [nI_clamp (by omega)]; exact hs3.symm) ?_
        refine lv_i2l hx hb d_La_law_277 rfl ?_
        refine ag_topl (fun y87 ey87 => ?_)
        refine lv_bipush (v := nI 32) hx hb d_La_law_278 (by decide +kernel) ?_
        refine lv_lshl hx hb d_La_law_280 rfl ?_
        refine ag_topl (fun y88 ey88 => ?_)
        refine lv_aload_n hx hb d_La_law_281 rfl (lv_at hl 0 rfl) ?_
        refine lv_iload hx hb d_La_law_282 (lv_at hl 4 rfl) ?_
        refine lv_iconst (v := nI 4) hx hb d_La_law_284 (by decide +kernel) ?_
        refine lv_iadd hx hb d_La_law_285 ?_
        refine aw_ti (nI_add (6 * t) 4) ?_
        refine va_sld hx hb hX hbl hbA hS (i := (nI ((6 * t) + 4))) (vp_in_nI (by omega) (by omega)) d_La_law_286 ?_
        refine aw_ti (y := s4) (by rw [nI_clamp (by omega)]; exact hs4.symm) ?_
        refine lv_i2l hx hb d_La_law_287 rfl ?_
        refine ag_topl (fun y89 ey89 => ?_)
        refine lv_ldc2 (v := 4294967295) hx hb hown (hG _ gw_13_3) d_La_law_288 ?_
        refine lv_land hx hb d_La_law_291 ?_
        refine ag_topl (fun y90 ey90 => ?_)
        refine lv_lor hx hb d_La_law_292 ?_
        refine ag_topl (fun y91 ey91 => ?_)
        refine va_calli (vx_runSW (As := [.ref (aw_r ad 0), .int c0, .int k0, .long y91]) (rest := []) ⟨hx, hb, hml, hown, hG⟩ (k_La_modeXcV l hst D g ad N0 zG zO zX zY zA zB zM zI zL zK zN zF zQ c0 k0 y91 hc) (aw_wW 4 hG gw_5_23 gw_5_21 gw_0_0 gw_5_22 rfl rfl hd_La_mode ⟨Nat.le_of_ble_eq_true rfl, Nat.le_of_ble_eq_true rfl⟩) (ag_qS hP hD hSh hU hS) rfl rfl hl.1 rfl (lv_room (Nat.le_of_ble_eq_true rfl)) d_La_law_293 ⟨by omega, by omega⟩) hS (fun _ _ h => h) (fun _ h => h) ?_
        clear hP hD hSh hS
        intro x92 u8 t8 H locs ht _ ex92 hB _ _ hS
        obtain ⟨L, hP, hD, hSh⟩ := hB
        rw [ht] at hP
        clear ht
        subst ex92
        refine lv_istore hx hb d_La_law_296 hl (by decide) rfl (fun ls hl => ?_)
        have hl : lv_has ls 8 [(5, .int (nI 1)), (0, .ref b), (1, .ref (aw_r ad 0)), (2, .ref (aw_m ad 0)), (3, .ref (aw_o ad)), (4, .int (nI (6 * t)))] := hl
        refine lv_aload_n hx hb d_La_law_298 rfl (lv_at hl 3 rfl) ?_
        refine lv_aload_n hx hb d_La_law_299 rfl (lv_at hl 1 rfl) ?_
        refine lv_iload hx hb d_La_law_300 (lv_at hl 5 rfl) ?_
        refine lv_iconst (v := nI 1) hx hb d_La_law_302 (by decide +kernel) ?_
        refine lv_iadd hx hb d_La_law_303 ?_
        refine aw_ti (nI_add (6 * t) 1) ?_
        refine va_sld hx hb hX hbl hbA hS (i := (nI ((6 * t) + 1))) (vp_in_nI (by omega) (by omega)) d_La_law_304 ?_
        refine aw_ti (y := c0) (by rw [nI_clamp (by omega)]; exact hc0.symm) ?_
        refine lv_aload_n hx hb d_La_law_305 rfl (lv_at hl 1 rfl) ?_
        refine lv_iload hx hb d_La_law_306 (lv_at hl 5 rfl) ?_
        refine lv_iconst (v := nI 2) hx hb d_La_law_308 (by decide +kernel) ?_
        refine lv_iadd hx hb d_La_law_309 ?_
        refine aw_ti (nI_add (6 * t) 2) ?_
        refine va_sld hx hb hX hbl hbA hS (i := (nI ((6 * t) + 2))) (vp_in_nI (by omega) (by omega)) d_La_law_310 ?_
        refine aw_ti (y := k0) (by rw [nI_clamp (by omega)]; exact hk0.symm) ?_
        refine lv_aload_n hx hb d_La_law_311 rfl (lv_at hl 1 rfl) ?_
        refine lv_iload hx hb d_La_law_312 (lv_at hl 5 rfl) ?_
        refine lv_iconst (v := nI 3) hx hb d_La_law_314 (by decide +kernel) ?_
        refine lv_iadd hx hb d_La_law_315 ?_
        refine aw_ti (nI_add (6 * t) 3) ?_
        refine va_sld hx hb hX hbl hbA hS (i := (nI ((6 * t) + 3))) (vp_in_nI (by omega) (by omega)) d_La_law_316 ?_
        refine aw_ti (y := s3) (by rw [nI_clamp (by omega)]; exact hs3.symm) ?_
        refine lv_i2l hx hb d_La_law_317 rfl ?_
        refine ag_topl (fun y93 ey93 => ?_)
        refine lv_bipush (v := nI 32) hx hb d_La_law_318 (by decide +kernel) ?_
        refine lv_lshl hx hb d_La_law_320 rfl ?_
        refine ag_topl (fun y94 ey94 => ?_)
        refine lv_aload_n hx hb d_La_law_321 rfl (lv_at hl 1 rfl) ?_
        refine lv_iload hx hb d_La_law_322 (lv_at hl 5 rfl) ?_
        refine lv_iconst (v := nI 4) hx hb d_La_law_324 (by decide +kernel) ?_
        refine lv_iadd hx hb d_La_law_325 ?_
        refine aw_ti (nI_add (6 * t) 4) ?_
        refine va_sld hx hb hX hbl hbA hS (i := (nI ((6 * t) + 4))) (vp_in_nI (by omega) (by omega)) d_La_law_326 ?_
        refine aw_ti (y := s4) (by rw [nI_clamp (by omega)]; exact hs4.symm) ?_
        refine lv_i2l hx hb d_La_law_327 rfl ?_
        refine ag_topl (fun y95 ey95 => ?_)
        refine lv_ldc2 (v := 4294967295) hx hb hown (hG _ gw_13_3) d_La_law_328 ?_
        refine lv_land hx hb d_La_law_331 ?_
        refine ag_topl (fun y96 ey96 => ?_)
        refine lv_lor hx hb d_La_law_332 ?_
        refine ag_topl (fun y97 ey97 => ?_)
        obtain ⟨_, he98⟩ := zr_M0 hSh
        refine va_callv (va_runV (As := [.int c0, .int k0, .long y97]) (rest := []) ⟨hx, hb, hml, hown, hG⟩ (k_Mo_modeXcV l D g ad N0 zG zO zX zY zA zB zM zI zL zK zN zF zQ c0 k0 y97 hc) (aw_wV 3 hG gw_10_45 gw_10_42 gw_0_10 gw_10_43 gw_10_44 rfl rfl hd_Mo_mode ⟨Nat.le_of_ble_eq_true rfl, Nat.le_of_ble_eq_true rfl⟩) (ag_qV (va_recv hK hP rfl he98) hP hD hSh hU hS) rfl rfl hl.1 rfl (lv_room (Nat.le_of_ble_eq_true rfl)) d_La_law_333 ⟨by omega, by omega⟩) hS (fun _ _ h => h) (fun _ h => h) ?_
        clear hP hD hSh hS he98
        intro u8 t8 H locs ht _ _ hB _ _ hS
        obtain ⟨L, hP, hD, hSh⟩ := hB
        rw [ht] at hP
        clear ht
        refine lv_goto (tgt := 853) hx hb d_La_law_336 (by decide) ?_
        refine lv_iinc (k := 5) (v := nI (6 * t + 6)) hx hb d_La_law_853 hl rfl (aw_inc (6 * t) 6 6 (by decide +kernel)) (by decide) rfl (fun ls hl => ?_)
        have hl : lv_has ls 8 [(4, .int (nI (6 * t + 6))), (5, .int (nI 1)), (0, .ref b), (1, .ref (aw_r ad 0)), (2, .ref (aw_m ad 0)), (3, .ref (aw_o ad))] := hl
        refine lv_goto (tgt := 23) hx hb d_La_law_856 (by decide) ?_
        have hl := lv_sub hl (l' := [(0, .ref b), (1, .ref (aw_r ad 0)), (2, .ref (aw_m ad 0)), (3, .ref (aw_o ad)), (4, .int (nI (6 * t + 6)))]) [2, 3, 4, 5, 0] rfl
        refine W.widen (k := 85 + (t + 1)) (n := 1246 + 6 * (t + 1)) (by omega) (by omega) ?_
        exact ih (t + 1) zG zO zX zY zA zB zM zI zL zK zN (nI 1) zQ _ _ L ls (by omega) hP hD hSh hR hS (by first | exact hl | simpa [Nat.mul_add] using hl)
      · have hgj := hSh.2.2.2.2.1 j hj
        have hq1 : (zM j).1 = (zG j).1 := by rw [hR.1 j hj]
        have hq2 : (zM j).2 = (zG j).2 := by rw [hR.1 j hj]
        rcases aw_ovr 5 (by decide) k0 with hk | ⟨k, hk, rfl⟩
        · refine lv_aload_n hx hb d_La_law_258 rfl (lv_at hl 1 rfl) ?_
          refine lv_aload_n hx hb d_La_law_259 rfl (lv_at hl 0 rfl) ?_
          refine lv_iload hx hb d_La_law_260 (lv_at hl 4 rfl) ?_
          refine lv_iconst (v := nI 1) hx hb d_La_law_262 (by decide +kernel) ?_
          refine lv_iadd hx hb d_La_law_263 ?_
          refine aw_ti (nI_add (6 * t) 1) ?_
          refine va_sld hx hb hX hbl hbA hS (i := (nI ((6 * t) + 1))) (vp_in_nI (by omega) (by omega)) d_La_law_264 ?_
          refine aw_ti (y := nI j) (by rw [nI_clamp (by omega)]; exact hc0.symm) ?_
          refine lv_aload_n hx hb d_La_law_265 rfl (lv_at hl 0 rfl) ?_
          refine lv_iload hx hb d_La_law_266 (lv_at hl 4 rfl) ?_
          refine lv_iconst (v := nI 2) hx hb d_La_law_268 (by decide +kernel) ?_
          refine lv_iadd hx hb d_La_law_269 ?_
          refine aw_ti (nI_add (6 * t) 2) ?_
          refine va_sld hx hb hX hbl hbA hS (i := (nI ((6 * t) + 2))) (vp_in_nI (by omega) (by omega)) d_La_law_270 ?_
          refine aw_ti (y := k0) (by rw [nI_clamp (by omega)]; exact hk0.symm) ?_
          refine lv_aload_n hx hb d_La_law_271 rfl (lv_at hl 0 rfl) ?_
          refine lv_iload hx hb d_La_law_272 (lv_at hl 4 rfl) ?_
          refine lv_iconst (v := nI 3) hx hb d_La_law_274 (by decide +kernel) ?_
          refine lv_iadd hx hb d_La_law_275 ?_
          refine aw_ti (nI_add (6 * t) 3) ?_
          refine va_sld hx hb hX hbl hbA hS (i := (nI ((6 * t) + 3))) (vp_in_nI (by omega) (by omega)) d_La_law_276 ?_
          refine aw_ti (y := s3) (by rw [nI_clamp (by omega)]; exact hs3.symm) ?_
          refine lv_i2l hx hb d_La_law_277 rfl ?_
          refine ag_topl (fun y99 ey99 => ?_)
          refine lv_bipush (v := nI 32) hx hb d_La_law_278 (by decide +kernel) ?_
          refine lv_lshl hx hb d_La_law_280 rfl ?_
          refine ag_topl (fun y100 ey100 => ?_)
          refine lv_aload_n hx hb d_La_law_281 rfl (lv_at hl 0 rfl) ?_
          refine lv_iload hx hb d_La_law_282 (lv_at hl 4 rfl) ?_
          refine lv_iconst (v := nI 4) hx hb d_La_law_284 (by decide +kernel) ?_
          refine lv_iadd hx hb d_La_law_285 ?_
          refine aw_ti (nI_add (6 * t) 4) ?_
          refine va_sld hx hb hX hbl hbA hS (i := (nI ((6 * t) + 4))) (vp_in_nI (by omega) (by omega)) d_La_law_286 ?_
          refine aw_ti (y := s4) (by rw [nI_clamp (by omega)]; exact hs4.symm) ?_
          refine lv_i2l hx hb d_La_law_287 rfl ?_
          refine ag_topl (fun y101 ey101 => ?_)
          refine lv_ldc2 (v := 4294967295) hx hb hown (hG _ gw_13_3) d_La_law_288 ?_
          refine lv_land hx hb d_La_law_291 ?_
          refine ag_topl (fun y102 ey102 => ?_)
          refine lv_lor hx hb d_La_law_292 ?_
          refine ag_topl (fun y103 ey103 => ?_)
          refine va_calli (vx_runSW (As := [.ref (aw_r ad 0), .int (nI j), .int k0, .long y103]) (rest := []) ⟨hx, hb, hml, hown, hG⟩ (k_La_modeXaV l hst D g ad N0 zG zO zX zY zA zB zM zI zL zK zN zF zQ j k0 y103 hj hk) (aw_wW 4 hG gw_5_23 gw_5_21 gw_0_0 gw_5_22 rfl rfl hd_La_mode ⟨Nat.le_of_ble_eq_true rfl, Nat.le_of_ble_eq_true rfl⟩) (ag_qS hP hD hSh hU hS) rfl rfl hl.1 rfl (lv_room (Nat.le_of_ble_eq_true rfl)) d_La_law_293 ⟨by omega, by omega⟩) hS (fun _ _ h => h) (fun _ h => h) ?_
          clear hP hD hSh hS
          intro x104 u8 t8 H locs ht _ ex104 hB _ _ hS
          obtain ⟨L, hP, hD, hSh⟩ := hB
          rw [ht] at hP
          clear ht
          subst ex104
          refine lv_istore hx hb d_La_law_296 hl (by decide) rfl (fun ls hl => ?_)
          have hl : lv_has ls 8 [(5, .int (nI 2)), (0, .ref b), (1, .ref (aw_r ad 0)), (2, .ref (aw_m ad 0)), (3, .ref (aw_o ad)), (4, .int (nI (6 * t)))] := hl
          refine lv_aload_n hx hb d_La_law_298 rfl (lv_at hl 3 rfl) ?_
          refine lv_aload_n hx hb d_La_law_299 rfl (lv_at hl 1 rfl) ?_
          refine lv_iload hx hb d_La_law_300 (lv_at hl 5 rfl) ?_
          refine lv_iconst (v := nI 1) hx hb d_La_law_302 (by decide +kernel) ?_
          refine lv_iadd hx hb d_La_law_303 ?_
          refine aw_ti (nI_add (6 * t) 1) ?_
          refine va_sld hx hb hX hbl hbA hS (i := (nI ((6 * t) + 1))) (vp_in_nI (by omega) (by omega)) d_La_law_304 ?_
          refine aw_ti (y := nI j) (by rw [nI_clamp (by omega)]; exact hc0.symm) ?_
          refine lv_aload_n hx hb d_La_law_305 rfl (lv_at hl 1 rfl) ?_
          refine lv_iload hx hb d_La_law_306 (lv_at hl 5 rfl) ?_
          refine lv_iconst (v := nI 2) hx hb d_La_law_308 (by decide +kernel) ?_
          refine lv_iadd hx hb d_La_law_309 ?_
          refine aw_ti (nI_add (6 * t) 2) ?_
          refine va_sld hx hb hX hbl hbA hS (i := (nI ((6 * t) + 2))) (vp_in_nI (by omega) (by omega)) d_La_law_310 ?_
          refine aw_ti (y := k0) (by rw [nI_clamp (by omega)]; exact hk0.symm) ?_
          refine lv_aload_n hx hb d_La_law_311 rfl (lv_at hl 1 rfl) ?_
          refine lv_iload hx hb d_La_law_312 (lv_at hl 5 rfl) ?_
          refine lv_iconst (v := nI 3) hx hb d_La_law_314 (by decide +kernel) ?_
          refine lv_iadd hx hb d_La_law_315 ?_
          refine aw_ti (nI_add (6 * t) 3) ?_
          refine va_sld hx hb hX hbl hbA hS (i := (nI ((6 * t) + 3))) (vp_in_nI (by omega) (by omega)) d_La_law_316 ?_
          refine aw_ti (y := s3) (by rw [nI_clamp (by omega)]; exact hs3.symm) ?_
          refine lv_i2l hx hb d_La_law_317 rfl ?_
          refine ag_topl (fun y105 ey105 => ?_)
          refine lv_bipush (v := nI 32) hx hb d_La_law_318 (by decide +kernel) ?_
          refine lv_lshl hx hb d_La_law_320 rfl ?_
          refine ag_topl (fun y106 ey106 => ?_)
          refine lv_aload_n hx hb d_La_law_321 rfl (lv_at hl 1 rfl) ?_
          refine lv_iload hx hb d_La_law_322 (lv_at hl 5 rfl) ?_
          refine lv_iconst (v := nI 4) hx hb d_La_law_324 (by decide +kernel) ?_
          refine lv_iadd hx hb d_La_law_325 ?_
          refine aw_ti (nI_add (6 * t) 4) ?_
          refine va_sld hx hb hX hbl hbA hS (i := (nI ((6 * t) + 4))) (vp_in_nI (by omega) (by omega)) d_La_law_326 ?_
          refine aw_ti (y := s4) (by rw [nI_clamp (by omega)]; exact hs4.symm) ?_
          refine lv_i2l hx hb d_La_law_327 rfl ?_
          refine ag_topl (fun y107 ey107 => ?_)
          refine lv_ldc2 (v := 4294967295) hx hb hown (hG _ gw_13_3) d_La_law_328 ?_
          refine lv_land hx hb d_La_law_331 ?_
          refine ag_topl (fun y108 ey108 => ?_)
          refine lv_lor hx hb d_La_law_332 ?_
          refine ag_topl (fun y109 ey109 => ?_)
          obtain ⟨_, he110⟩ := zr_M0 hSh
          refine va_callv (va_runV (As := [.int (nI j), .int k0, .long y109]) (rest := []) ⟨hx, hb, hml, hown, hG⟩ (k_Mo_modeXaV l D g ad N0 zG zO zX zY zA zB zM zI zL zK zN zF zQ j k0 y109 hj hk) (aw_wV 3 hG gw_10_45 gw_10_42 gw_0_10 gw_10_43 gw_10_44 rfl rfl hd_Mo_mode ⟨Nat.le_of_ble_eq_true rfl, Nat.le_of_ble_eq_true rfl⟩) (ag_qV (va_recv hK hP rfl he110) hP hD hSh hU hS) rfl rfl hl.1 rfl (lv_room (Nat.le_of_ble_eq_true rfl)) d_La_law_333 ⟨by omega, by omega⟩) hS (fun _ _ h => h) (fun _ h => h) ?_
          clear hP hD hSh hS he110
          intro u8 t8 H locs ht _ _ hB _ _ hS
          obtain ⟨L, hP, hD, hSh⟩ := hB
          rw [ht] at hP
          clear ht
          refine lv_goto (tgt := 853) hx hb d_La_law_336 (by decide) ?_
          refine lv_iinc (k := 5) (v := nI (6 * t + 6)) hx hb d_La_law_853 hl rfl (aw_inc (6 * t) 6 6 (by decide +kernel)) (by decide) rfl (fun ls hl => ?_)
          have hl : lv_has ls 8 [(4, .int (nI (6 * t + 6))), (5, .int (nI 2)), (0, .ref b), (1, .ref (aw_r ad 0)), (2, .ref (aw_m ad 0)), (3, .ref (aw_o ad))] := hl
          refine lv_goto (tgt := 23) hx hb d_La_law_856 (by decide) ?_
          have hl := lv_sub hl (l' := [(0, .ref b), (1, .ref (aw_r ad 0)), (2, .ref (aw_m ad 0)), (3, .ref (aw_o ad)), (4, .int (nI (6 * t + 6)))]) [2, 3, 4, 5, 0] rfl
          refine W.widen (k := 85 + (t + 1)) (n := 1246 + 6 * (t + 1)) (by omega) (by omega) ?_
          exact ih (t + 1) zG zO zX zY zA zB zM zI zL zK zN (nI 2) zQ _ _ L ls (by omega) hP hD hSh hR hS (by first | exact hl | simpa [Nat.mul_add] using hl)
        · by_cases hs : 2 ≤ (zG j).1
          · refine lv_aload_n hx hb d_La_law_258 rfl (lv_at hl 1 rfl) ?_
            refine lv_aload_n hx hb d_La_law_259 rfl (lv_at hl 0 rfl) ?_
            refine lv_iload hx hb d_La_law_260 (lv_at hl 4 rfl) ?_
            refine lv_iconst (v := nI 1) hx hb d_La_law_262 (by decide +kernel) ?_
            refine lv_iadd hx hb d_La_law_263 ?_
            refine aw_ti (nI_add (6 * t) 1) ?_
            refine va_sld hx hb hX hbl hbA hS (i := (nI ((6 * t) + 1))) (vp_in_nI (by omega) (by omega)) d_La_law_264 ?_
            refine aw_ti (y := nI j) (by rw [nI_clamp (by omega)]; exact hc0.symm) ?_
            refine lv_aload_n hx hb d_La_law_265 rfl (lv_at hl 0 rfl) ?_
            refine lv_iload hx hb d_La_law_266 (lv_at hl 4 rfl) ?_
            refine lv_iconst (v := nI 2) hx hb d_La_law_268 (by decide +kernel) ?_
            refine lv_iadd hx hb d_La_law_269 ?_
            refine aw_ti (nI_add (6 * t) 2) ?_
            refine va_sld hx hb hX hbl hbA hS (i := (nI ((6 * t) + 2))) (vp_in_nI (by omega) (by omega)) d_La_law_270 ?_
            refine aw_ti (y := nI k) (by rw [nI_clamp (by omega)]; exact hk0.symm) ?_
            refine lv_aload_n hx hb d_La_law_271 rfl (lv_at hl 0 rfl) ?_
            refine lv_iload hx hb d_La_law_272 (lv_at hl 4 rfl) ?_
            refine lv_iconst (v := nI 3) hx hb d_La_law_274 (by decide +kernel) ?_
            refine lv_iadd hx hb d_La_law_275 ?_
            refine aw_ti (nI_add (6 * t) 3) ?_
            refine va_sld hx hb hX hbl hbA hS (i := (nI ((6 * t) + 3))) (vp_in_nI (by omega) (by omega)) d_La_law_276 ?_
            refine aw_ti (y := s3) (by rw [nI_clamp (by omega)]; exact hs3.symm) ?_
            refine lv_i2l hx hb d_La_law_277 rfl ?_
            refine ag_topl (fun y111 ey111 => ?_)
            refine lv_bipush (v := nI 32) hx hb d_La_law_278 (by decide +kernel) ?_
            refine lv_lshl hx hb d_La_law_280 rfl ?_
            refine ag_topl (fun y112 ey112 => ?_)
            refine lv_aload_n hx hb d_La_law_281 rfl (lv_at hl 0 rfl) ?_
            refine lv_iload hx hb d_La_law_282 (lv_at hl 4 rfl) ?_
            refine lv_iconst (v := nI 4) hx hb d_La_law_284 (by decide +kernel) ?_
            refine lv_iadd hx hb d_La_law_285 ?_
            refine aw_ti (nI_add (6 * t) 4) ?_
            refine va_sld hx hb hX hbl hbA hS (i := (nI ((6 * t) + 4))) (vp_in_nI (by omega) (by omega)) d_La_law_286 ?_
            refine aw_ti (y := s4) (by rw [nI_clamp (by omega)]; exact hs4.symm) ?_
            refine lv_i2l hx hb d_La_law_287 rfl ?_
            refine ag_topl (fun y113 ey113 => ?_)
            refine lv_ldc2 (v := 4294967295) hx hb hown (hG _ gw_13_3) d_La_law_288 ?_
            refine lv_land hx hb d_La_law_291 ?_
            refine ag_topl (fun y114 ey114 => ?_)
            refine lv_lor hx hb d_La_law_292 ?_
            refine ag_topl (fun y115 ey115 => ?_)
            refine va_calli (vx_runSW (As := [.ref (aw_r ad 0), .int (nI j), .int (nI k), .long y115]) (rest := []) ⟨hx, hb, hml, hown, hG⟩ (k_La_mode1V l hst D g ad N0 zG zO zX zY zA zB zM zI zL zK zN zF zQ j k y115 hj (by omega) (by omega)) (aw_wW 4 hG gw_5_23 gw_5_21 gw_0_0 gw_5_22 rfl rfl hd_La_mode ⟨Nat.le_of_ble_eq_true rfl, Nat.le_of_ble_eq_true rfl⟩) (ag_qS hP hD hSh hU hS) rfl rfl hl.1 rfl (lv_room (Nat.le_of_ble_eq_true rfl)) d_La_law_293 ⟨by omega, by omega⟩) hS (fun _ _ h => h) (fun _ h => h) ?_
            clear hP hD hSh hS
            intro x116 u8 t8 H locs ht _ ex116 hB _ _ hS
            obtain ⟨L, hP, hD, hSh⟩ := hB
            rw [ht] at hP
            clear ht
            subst ex116
            obtain ⟨zG117, ezG117⟩ : ∃ z : Nat → Nat × Nat, v_La_mode1V_zG zG zX zY j k y115 = z := ⟨_, rfl⟩
            rw [ezG117] at hSh
            obtain ⟨zX118, ezX118⟩ : ∃ z : Nat → Nat → Int64, v_La_mode1V_zX zG zX zY j k y115 = z := ⟨_, rfl⟩
            rw [ezX118] at hSh
            obtain ⟨zY119, ezY119⟩ : ∃ z : Nat → Nat → Int32, v_La_mode1V_zY zG zX zY j k y115 = z := ⟨_, rfl⟩
            rw [ezY119] at hSh
            refine lv_istore hx hb d_La_law_296 hl (by decide) rfl (fun ls hl => ?_)
            have hl : lv_has ls 8 [(5, .int (nI 0)), (0, .ref b), (1, .ref (aw_r ad 0)), (2, .ref (aw_m ad 0)), (3, .ref (aw_o ad)), (4, .int (nI (6 * t)))] := hl
            refine lv_aload_n hx hb d_La_law_298 rfl (lv_at hl 3 rfl) ?_
            refine lv_aload_n hx hb d_La_law_299 rfl (lv_at hl 1 rfl) ?_
            refine lv_iload hx hb d_La_law_300 (lv_at hl 5 rfl) ?_
            refine lv_iconst (v := nI 1) hx hb d_La_law_302 (by decide +kernel) ?_
            refine lv_iadd hx hb d_La_law_303 ?_
            refine aw_ti (nI_add (6 * t) 1) ?_
            refine va_sld hx hb hX hbl hbA hS (i := (nI ((6 * t) + 1))) (vp_in_nI (by omega) (by omega)) d_La_law_304 ?_
            refine aw_ti (y := nI j) (by rw [nI_clamp (by omega)]; exact hc0.symm) ?_
            refine lv_aload_n hx hb d_La_law_305 rfl (lv_at hl 1 rfl) ?_
            refine lv_iload hx hb d_La_law_306 (lv_at hl 5 rfl) ?_
            refine lv_iconst (v := nI 2) hx hb d_La_law_308 (by decide +kernel) ?_
            refine lv_iadd hx hb d_La_law_309 ?_
            refine aw_ti (nI_add (6 * t) 2) ?_
            refine va_sld hx hb hX hbl hbA hS (i := (nI ((6 * t) + 2))) (vp_in_nI (by omega) (by omega)) d_La_law_310 ?_
            refine aw_ti (y := nI k) (by rw [nI_clamp (by omega)]; exact hk0.symm) ?_
            refine lv_aload_n hx hb d_La_law_311 rfl (lv_at hl 1 rfl) ?_
            refine lv_iload hx hb d_La_law_312 (lv_at hl 5 rfl) ?_
            refine lv_iconst (v := nI 3) hx hb d_La_law_314 (by decide +kernel) ?_
            refine lv_iadd hx hb d_La_law_315 ?_
            refine aw_ti (nI_add (6 * t) 3) ?_
            refine va_sld hx hb hX hbl hbA hS (i := (nI ((6 * t) + 3))) (vp_in_nI (by omega) (by omega)) d_La_law_316 ?_
            refine aw_ti (y := s3) (by rw [nI_clamp (by omega)]; exact hs3.symm) ?_
            refine lv_i2l hx hb d_La_law_317 rfl ?_
            refine ag_topl (fun y120 ey120 => ?_)
            refine lv_bipush (v := nI 32) hx hb d_La_law_318 (by decide +kernel) ?_
            refine lv_lshl hx hb d_La_law_320 rfl ?_
            refine ag_topl (fun y121 ey121 => ?_)
            refine lv_aload_n hx hb d_La_law_321 rfl (lv_at hl 1 rfl) ?_
            refine lv_iload hx hb d_La_law_322 (lv_at hl 5 rfl) ?_
            refine lv_iconst (v := nI 4) hx hb d_La_law_324 (by decide +kernel) ?_
            refine lv_iadd hx hb d_La_law_325 ?_
            refine aw_ti (nI_add (6 * t) 4) ?_
            refine va_sld hx hb hX hbl hbA hS (i := (nI ((6 * t) + 4))) (vp_in_nI (by omega) (by omega)) d_La_law_326 ?_
            refine aw_ti (y := s4) (by rw [nI_clamp (by omega)]; exact hs4.symm) ?_
            refine lv_i2l hx hb d_La_law_327 rfl ?_
            refine ag_topl (fun y122 ey122 => ?_)
            refine lv_ldc2 (v := 4294967295) hx hb hown (hG _ gw_13_3) d_La_law_328 ?_
            refine lv_land hx hb d_La_law_331 ?_
            refine ag_topl (fun y123 ey123 => ?_)
            refine lv_lor hx hb d_La_law_332 ?_
            refine ag_topl (fun y124 ey124 => ?_)
            obtain ⟨_, he125⟩ := zr_M0 hSh
            refine va_callv (va_runV (As := [.int (nI j), .int (nI k), .long y124]) (rest := []) ⟨hx, hb, hml, hown, hG⟩ (k_Mo_mode1V l D g ad N0 zG117 zO zX118 zY119 zA zB zM zI zL zK zN zF zQ j k y124 hj (by omega) (by omega)) (aw_wV 3 hG gw_10_45 gw_10_42 gw_0_10 gw_10_43 gw_10_44 rfl rfl hd_Mo_mode ⟨Nat.le_of_ble_eq_true rfl, Nat.le_of_ble_eq_true rfl⟩) (ag_qV (va_recv hK hP rfl he125) hP hD hSh hU hS) rfl rfl hl.1 rfl (lv_room (Nat.le_of_ble_eq_true rfl)) d_La_law_333 ⟨by omega, by omega⟩) hS (fun _ _ h => h) (fun _ h => h) ?_
            clear hP hD hSh hS he125
            intro u8 t8 H locs ht _ _ hB _ _ hS
            obtain ⟨L, hP, hD, hSh⟩ := hB
            rw [ht] at hP
            clear ht
            obtain ⟨zM126, ezM126⟩ : ∃ z : Nat → Nat × Nat, v_Mo_mode1V_zM zM zI zL j k y124 = z := ⟨_, rfl⟩
            rw [ezM126] at hSh
            obtain ⟨zI127, ezI127⟩ : ∃ z : Nat → Nat → Int32, v_Mo_mode1V_zI zM zI zL j k y124 = z := ⟨_, rfl⟩
            rw [ezI127] at hSh
            obtain ⟨zL128, ezL128⟩ : ∃ z : Nat → Nat → Int64, v_Mo_mode1V_zL zM zI zL j k y124 = z := ⟨_, rfl⟩
            rw [ezL128] at hSh
            refine lv_goto (tgt := 853) hx hb d_La_law_336 (by decide) ?_
            refine lv_iinc (k := 5) (v := nI (6 * t + 6)) hx hb d_La_law_853 hl rfl (aw_inc (6 * t) 6 6 (by decide +kernel)) (by decide) rfl (fun ls hl => ?_)
            have hl : lv_has ls 8 [(4, .int (nI (6 * t + 6))), (5, .int (nI 0)), (0, .ref b), (1, .ref (aw_r ad 0)), (2, .ref (aw_m ad 0)), (3, .ref (aw_o ad))] := hl
            refine lv_goto (tgt := 23) hx hb d_La_law_856 (by decide) ?_
            have hl := lv_sub hl (l' := [(0, .ref b), (1, .ref (aw_r ad 0)), (2, .ref (aw_m ad 0)), (3, .ref (aw_o ad)), (4, .int (nI (6 * t + 6)))]) [2, 3, 4, 5, 0] rfl
            refine W.widen (k := 85 + (t + 1)) (n := 1246 + 6 * (t + 1)) (by omega) (by omega) ?_
            have hR : az_R zG117 zO zX118 zY119 zA zB zM126 zI127 zL128 := by
              subst ezL128 ezI127 ezM126 ey124 ey123 ey122 ey121 ey120 ezY119 ezX118 ezG117 ey115 ey114 ey113 ey112 ey111
              exact r_mode1 hR hj hk hs
            exact ih (t + 1) zG117 zO zX118 zY119 zA zB zM126 zI127 zL128 zK zN (nI 0) zQ _ _ L ls (by omega) hP hD hSh hR hS (by first | exact hl | simpa [Nat.mul_add] using hl)
          · refine lv_aload_n hx hb d_La_law_258 rfl (lv_at hl 1 rfl) ?_
            refine lv_aload_n hx hb d_La_law_259 rfl (lv_at hl 0 rfl) ?_
            refine lv_iload hx hb d_La_law_260 (lv_at hl 4 rfl) ?_
            refine lv_iconst (v := nI 1) hx hb d_La_law_262 (by decide +kernel) ?_
            refine lv_iadd hx hb d_La_law_263 ?_
            refine aw_ti (nI_add (6 * t) 1) ?_
            refine va_sld hx hb hX hbl hbA hS (i := (nI ((6 * t) + 1))) (vp_in_nI (by omega) (by omega)) d_La_law_264 ?_
            refine aw_ti (y := nI j) (by rw [nI_clamp (by omega)]; exact hc0.symm) ?_
            refine lv_aload_n hx hb d_La_law_265 rfl (lv_at hl 0 rfl) ?_
            refine lv_iload hx hb d_La_law_266 (lv_at hl 4 rfl) ?_
            refine lv_iconst (v := nI 2) hx hb d_La_law_268 (by decide +kernel) ?_
            refine lv_iadd hx hb d_La_law_269 ?_
            refine aw_ti (nI_add (6 * t) 2) ?_
            refine va_sld hx hb hX hbl hbA hS (i := (nI ((6 * t) + 2))) (vp_in_nI (by omega) (by omega)) d_La_law_270 ?_
            refine aw_ti (y := nI k) (by rw [nI_clamp (by omega)]; exact hk0.symm) ?_
            refine lv_aload_n hx hb d_La_law_271 rfl (lv_at hl 0 rfl) ?_
            refine lv_iload hx hb d_La_law_272 (lv_at hl 4 rfl) ?_
            refine lv_iconst (v := nI 3) hx hb d_La_law_274 (by decide +kernel) ?_
            refine lv_iadd hx hb d_La_law_275 ?_
            refine aw_ti (nI_add (6 * t) 3) ?_
            refine va_sld hx hb hX hbl hbA hS (i := (nI ((6 * t) + 3))) (vp_in_nI (by omega) (by omega)) d_La_law_276 ?_
            refine aw_ti (y := s3) (by rw [nI_clamp (by omega)]; exact hs3.symm) ?_
            refine lv_i2l hx hb d_La_law_277 rfl ?_
            refine ag_topl (fun y129 ey129 => ?_)
            refine lv_bipush (v := nI 32) hx hb d_La_law_278 (by decide +kernel) ?_
            refine lv_lshl hx hb d_La_law_280 rfl ?_
            refine ag_topl (fun y130 ey130 => ?_)
            refine lv_aload_n hx hb d_La_law_281 rfl (lv_at hl 0 rfl) ?_
            refine lv_iload hx hb d_La_law_282 (lv_at hl 4 rfl) ?_
            refine lv_iconst (v := nI 4) hx hb d_La_law_284 (by decide +kernel) ?_
            refine lv_iadd hx hb d_La_law_285 ?_
            refine aw_ti (nI_add (6 * t) 4) ?_
            refine va_sld hx hb hX hbl hbA hS (i := (nI ((6 * t) + 4))) (vp_in_nI (by omega) (by omega)) d_La_law_286 ?_
            refine aw_ti (y := s4) (by rw [nI_clamp (by omega)]; exact hs4.symm) ?_
            refine lv_i2l hx hb d_La_law_287 rfl ?_
            refine ag_topl (fun y131 ey131 => ?_)
            refine lv_ldc2 (v := 4294967295) hx hb hown (hG _ gw_13_3) d_La_law_288 ?_
            refine lv_land hx hb d_La_law_291 ?_
            refine ag_topl (fun y132 ey132 => ?_)
            refine lv_lor hx hb d_La_law_292 ?_
            refine ag_topl (fun y133 ey133 => ?_)
            refine va_calli (vx_runSW (As := [.ref (aw_r ad 0), .int (nI j), .int (nI k), .long y133]) (rest := []) ⟨hx, hb, hml, hown, hG⟩ (k_La_modeXsV l hst D g ad N0 zG zO zX zY zA zB zM zI zL zK zN zF zQ j k y133 hj (by omega) (by omega)) (aw_wW 4 hG gw_5_23 gw_5_21 gw_0_0 gw_5_22 rfl rfl hd_La_mode ⟨Nat.le_of_ble_eq_true rfl, Nat.le_of_ble_eq_true rfl⟩) (ag_qS hP hD hSh hU hS) rfl rfl hl.1 rfl (lv_room (Nat.le_of_ble_eq_true rfl)) d_La_law_293 ⟨by omega, by omega⟩) hS (fun _ _ h => h) (fun _ h => h) ?_
            clear hP hD hSh hS
            intro x134 u8 t8 H locs ht _ ex134 hB _ _ hS
            obtain ⟨L, hP, hD, hSh⟩ := hB
            rw [ht] at hP
            clear ht
            subst ex134
            refine lv_istore hx hb d_La_law_296 hl (by decide) rfl (fun ls hl => ?_)
            have hl : lv_has ls 8 [(5, .int (nI 3)), (0, .ref b), (1, .ref (aw_r ad 0)), (2, .ref (aw_m ad 0)), (3, .ref (aw_o ad)), (4, .int (nI (6 * t)))] := hl
            refine lv_aload_n hx hb d_La_law_298 rfl (lv_at hl 3 rfl) ?_
            refine lv_aload_n hx hb d_La_law_299 rfl (lv_at hl 1 rfl) ?_
            refine lv_iload hx hb d_La_law_300 (lv_at hl 5 rfl) ?_
            refine lv_iconst (v := nI 1) hx hb d_La_law_302 (by decide +kernel) ?_
            refine lv_iadd hx hb d_La_law_303 ?_
            refine aw_ti (nI_add (6 * t) 1) ?_
            refine va_sld hx hb hX hbl hbA hS (i := (nI ((6 * t) + 1))) (vp_in_nI (by omega) (by omega)) d_La_law_304 ?_
            refine aw_ti (y := nI j) (by rw [nI_clamp (by omega)]; exact hc0.symm) ?_
            refine lv_aload_n hx hb d_La_law_305 rfl (lv_at hl 1 rfl) ?_
            refine lv_iload hx hb d_La_law_306 (lv_at hl 5 rfl) ?_
            refine lv_iconst (v := nI 2) hx hb d_La_law_308 (by decide +kernel) ?_
            refine lv_iadd hx hb d_La_law_309 ?_
            refine aw_ti (nI_add (6 * t) 2) ?_
            refine va_sld hx hb hX hbl hbA hS (i := (nI ((6 * t) + 2))) (vp_in_nI (by omega) (by omega)) d_La_law_310 ?_
            refine aw_ti (y := nI k) (by rw [nI_clamp (by omega)]; exact hk0.symm) ?_
            refine lv_aload_n hx hb d_La_law_311 rfl (lv_at hl 1 rfl) ?_
            refine lv_iload hx hb d_La_law_312 (lv_at hl 5 rfl) ?_
            refine lv_iconst (v := nI 3) hx hb d_La_law_314 (by decide +kernel) ?_
            refine lv_iadd hx hb d_La_law_315 ?_
            refine aw_ti (nI_add (6 * t) 3) ?_
            refine va_sld hx hb hX hbl hbA hS (i := (nI ((6 * t) + 3))) (vp_in_nI (by omega) (by omega)) d_La_law_316 ?_
            refine aw_ti (y := s3) (by rw [nI_clamp (by omega)]; exact hs3.symm) ?_
            refine lv_i2l hx hb d_La_law_317 rfl ?_
            refine ag_topl (fun y135 ey135 => ?_)
            refine lv_bipush (v := nI 32) hx hb d_La_law_318 (by decide +kernel) ?_
            refine lv_lshl hx hb d_La_law_320 rfl ?_
            refine ag_topl (fun y136 ey136 => ?_)
            refine lv_aload_n hx hb d_La_law_321 rfl (lv_at hl 1 rfl) ?_
            refine lv_iload hx hb d_La_law_322 (lv_at hl 5 rfl) ?_
            refine lv_iconst (v := nI 4) hx hb d_La_law_324 (by decide +kernel) ?_
            refine lv_iadd hx hb d_La_law_325 ?_
            refine aw_ti (nI_add (6 * t) 4) ?_
            refine va_sld hx hb hX hbl hbA hS (i := (nI ((6 * t) + 4))) (vp_in_nI (by omega) (by omega)) d_La_law_326 ?_
            refine aw_ti (y := s4) (by rw [nI_clamp (by omega)]; exact hs4.symm) ?_
            refine lv_i2l hx hb d_La_law_327 rfl ?_
            refine ag_topl (fun y137 ey137 => ?_)
            refine lv_ldc2 (v := 4294967295) hx hb hown (hG _ gw_13_3) d_La_law_328 ?_
            refine lv_land hx hb d_La_law_331 ?_
            refine ag_topl (fun y138 ey138 => ?_)
            refine lv_lor hx hb d_La_law_332 ?_
            refine ag_topl (fun y139 ey139 => ?_)
            obtain ⟨_, he140⟩ := zr_M0 hSh
            refine va_callv (va_runV (As := [.int (nI j), .int (nI k), .long y139]) (rest := []) ⟨hx, hb, hml, hown, hG⟩ (k_Mo_modeXsV l D g ad N0 zG zO zX zY zA zB zM zI zL zK zN zF zQ j k y139 hj (by omega) (by omega)) (aw_wV 3 hG gw_10_45 gw_10_42 gw_0_10 gw_10_43 gw_10_44 rfl rfl hd_Mo_mode ⟨Nat.le_of_ble_eq_true rfl, Nat.le_of_ble_eq_true rfl⟩) (ag_qV (va_recv hK hP rfl he140) hP hD hSh hU hS) rfl rfl hl.1 rfl (lv_room (Nat.le_of_ble_eq_true rfl)) d_La_law_333 ⟨by omega, by omega⟩) hS (fun _ _ h => h) (fun _ h => h) ?_
            clear hP hD hSh hS he140
            intro u8 t8 H locs ht _ _ hB _ _ hS
            obtain ⟨L, hP, hD, hSh⟩ := hB
            rw [ht] at hP
            clear ht
            refine lv_goto (tgt := 853) hx hb d_La_law_336 (by decide) ?_
            refine lv_iinc (k := 5) (v := nI (6 * t + 6)) hx hb d_La_law_853 hl rfl (aw_inc (6 * t) 6 6 (by decide +kernel)) (by decide) rfl (fun ls hl => ?_)
            have hl : lv_has ls 8 [(4, .int (nI (6 * t + 6))), (5, .int (nI 3)), (0, .ref b), (1, .ref (aw_r ad 0)), (2, .ref (aw_m ad 0)), (3, .ref (aw_o ad))] := hl
            refine lv_goto (tgt := 23) hx hb d_La_law_856 (by decide) ?_
            have hl := lv_sub hl (l' := [(0, .ref b), (1, .ref (aw_r ad 0)), (2, .ref (aw_m ad 0)), (3, .ref (aw_o ad)), (4, .int (nI (6 * t + 6)))]) [2, 3, 4, 5, 0] rfl
            refine W.widen (k := 85 + (t + 1)) (n := 1246 + 6 * (t + 1)) (by omega) (by omega) ?_
            exact ih (t + 1) zG zO zX zY zA zB zM zI zL zK zN (nI 3) zQ _ _ L ls (by omega) hP hD hSh hR hS (by first | exact hl | simpa [Nat.mul_add] using hl)
    · refine aw_ti (y := nI 3) (by rw [hs3]) ?_
      refine lv_tableIn (tgt := 339) (off := 299) hx hb d_La_law_40 (by decide +kernel) (by decide +kernel) (by decide +kernel) (by decide) ?_
      obtain ⟨c0, hc0⟩ : ∃ z : Int32, z = xs (6 * t + 1) := ⟨_, rfl⟩
      rcases aw_rng 4 (by decide) c0 with hc | ⟨j, hj, rfl⟩
      · refine lv_aload_n hx hb d_La_law_339 rfl (lv_at hl 1 rfl) ?_
        refine lv_aload_n hx hb d_La_law_340 rfl (lv_at hl 0 rfl) ?_
        refine lv_iload hx hb d_La_law_341 (lv_at hl 4 rfl) ?_
        refine lv_iconst (v := nI 1) hx hb d_La_law_343 (by decide +kernel) ?_
        refine lv_iadd hx hb d_La_law_344 ?_
        refine aw_ti (nI_add (6 * t) 1) ?_
        refine va_sld hx hb hX hbl hbA hS (i := (nI ((6 * t) + 1))) (vp_in_nI (by omega) (by omega)) d_La_law_345 ?_
        refine aw_ti (y := c0) (by rw [nI_clamp (by omega)]; exact hc0.symm) ?_
        refine va_calli (vx_runSW (As := [.ref (aw_r ad 0), .int c0]) (rest := []) ⟨hx, hb, hml, hown, hG⟩ (k_La_freeXcV l hst D g ad N0 zG zO zX zY zA zB zM zI zL zK zN zF zQ c0 hc) (aw_wW 2 hG gw_5_41 gw_5_39 gw_0_0 gw_5_40 rfl rfl hd_La_free ⟨Nat.le_of_ble_eq_true rfl, Nat.le_of_ble_eq_true rfl⟩) (ag_qS hP hD hSh hU hS) rfl rfl hl.1 rfl (lv_room (Nat.le_of_ble_eq_true rfl)) d_La_law_346 ⟨by omega, by omega⟩) hS (fun _ _ h => h) (fun _ h => h) ?_
        clear hP hD hSh hS
        intro x141 u8 t8 H locs ht _ ex141 hB _ _ hS
        obtain ⟨L, hP, hD, hSh⟩ := hB
        rw [ht] at hP
        clear ht
        subst ex141
        refine lv_istore hx hb d_La_law_349 hl (by decide) rfl (fun ls hl => ?_)
        have hl : lv_has ls 8 [(5, .int (nI 1)), (0, .ref b), (1, .ref (aw_r ad 0)), (2, .ref (aw_m ad 0)), (3, .ref (aw_o ad)), (4, .int (nI (6 * t)))] := hl
        refine lv_aload_n hx hb d_La_law_351 rfl (lv_at hl 3 rfl) ?_
        refine lv_aload_n hx hb d_La_law_352 rfl (lv_at hl 1 rfl) ?_
        refine lv_iload hx hb d_La_law_353 (lv_at hl 5 rfl) ?_
        refine lv_iconst (v := nI 1) hx hb d_La_law_355 (by decide +kernel) ?_
        refine lv_iadd hx hb d_La_law_356 ?_
        refine aw_ti (nI_add (6 * t) 1) ?_
        refine va_sld hx hb hX hbl hbA hS (i := (nI ((6 * t) + 1))) (vp_in_nI (by omega) (by omega)) d_La_law_357 ?_
        refine aw_ti (y := c0) (by rw [nI_clamp (by omega)]; exact hc0.symm) ?_
        obtain ⟨_, he142⟩ := zr_M0 hSh
        refine va_callv (va_runV (As := [.int c0]) (rest := []) ⟨hx, hb, hml, hown, hG⟩ (k_Mo_freeXcV l D g ad N0 zG zO zX zY zA zB zM zI zL zK zN zF zQ c0 hc) (aw_wV 1 hG gw_10_55 gw_10_52 gw_0_10 gw_10_53 gw_10_54 rfl rfl hd_Mo_free ⟨Nat.le_of_ble_eq_true rfl, Nat.le_of_ble_eq_true rfl⟩) (ag_qV (va_recv hK hP rfl he142) hP hD hSh hU hS) rfl rfl hl.1 rfl (lv_room (Nat.le_of_ble_eq_true rfl)) d_La_law_358 ⟨by omega, by omega⟩) hS (fun _ _ h => h) (fun _ h => h) ?_
        clear hP hD hSh hS he142
        intro u8 t8 H locs ht _ _ hB _ _ hS
        obtain ⟨L, hP, hD, hSh⟩ := hB
        rw [ht] at hP
        clear ht
        refine lv_goto (tgt := 853) hx hb d_La_law_361 (by decide) ?_
        refine lv_iinc (k := 5) (v := nI (6 * t + 6)) hx hb d_La_law_853 hl rfl (aw_inc (6 * t) 6 6 (by decide +kernel)) (by decide) rfl (fun ls hl => ?_)
        have hl : lv_has ls 8 [(4, .int (nI (6 * t + 6))), (5, .int (nI 1)), (0, .ref b), (1, .ref (aw_r ad 0)), (2, .ref (aw_m ad 0)), (3, .ref (aw_o ad))] := hl
        refine lv_goto (tgt := 23) hx hb d_La_law_856 (by decide) ?_
        have hl := lv_sub hl (l' := [(0, .ref b), (1, .ref (aw_r ad 0)), (2, .ref (aw_m ad 0)), (3, .ref (aw_o ad)), (4, .int (nI (6 * t + 6)))]) [2, 3, 4, 5, 0] rfl
        refine W.widen (k := 85 + (t + 1)) (n := 1246 + 6 * (t + 1)) (by omega) (by omega) ?_
        exact ih (t + 1) zG zO zX zY zA zB zM zI zL zK zN (nI 1) zQ _ _ L ls (by omega) hP hD hSh hR hS (by first | exact hl | simpa [Nat.mul_add] using hl)
      · have hgj := hSh.2.2.2.2.1 j hj
        have hq1 : (zM j).1 = (zG j).1 := by rw [hR.1 j hj]
        have hq2 : (zM j).2 = (zG j).2 := by rw [hR.1 j hj]
        refine lv_aload_n hx hb d_La_law_339 rfl (lv_at hl 1 rfl) ?_
        refine lv_aload_n hx hb d_La_law_340 rfl (lv_at hl 0 rfl) ?_
        refine lv_iload hx hb d_La_law_341 (lv_at hl 4 rfl) ?_
        refine lv_iconst (v := nI 1) hx hb d_La_law_343 (by decide +kernel) ?_
        refine lv_iadd hx hb d_La_law_344 ?_
        refine aw_ti (nI_add (6 * t) 1) ?_
        refine va_sld hx hb hX hbl hbA hS (i := (nI ((6 * t) + 1))) (vp_in_nI (by omega) (by omega)) d_La_law_345 ?_
        refine aw_ti (y := nI j) (by rw [nI_clamp (by omega)]; exact hc0.symm) ?_
        refine va_calli (vx_runSW (As := [.ref (aw_r ad 0), .int (nI j)]) (rest := []) ⟨hx, hb, hml, hown, hG⟩ (k_La_free1V l hst D g ad N0 zG zO zX zY zA zB zM zI zL zK zN zF zQ j hj) (aw_wW 2 hG gw_5_41 gw_5_39 gw_0_0 gw_5_40 rfl rfl hd_La_free ⟨Nat.le_of_ble_eq_true rfl, Nat.le_of_ble_eq_true rfl⟩) (ag_qS hP hD hSh hU hS) rfl rfl hl.1 rfl (lv_room (Nat.le_of_ble_eq_true rfl)) d_La_law_346 ⟨by omega, by omega⟩) hS (fun _ _ h => h) (fun _ h => h) ?_
        clear hP hD hSh hS
        intro x143 u8 t8 H locs ht _ ex143 hB _ _ hS
        obtain ⟨L, hP, hD, hSh⟩ := hB
        rw [ht] at hP
        clear ht
        subst ex143
        obtain ⟨zG144, ezG144⟩ : ∃ z : Nat → Nat × Nat, v_La_free1V_zG zG j = z := ⟨_, rfl⟩
        rw [ezG144] at hSh
        refine lv_istore hx hb d_La_law_349 hl (by decide) rfl (fun ls hl => ?_)
        have hl : lv_has ls 8 [(5, .int (nI 0)), (0, .ref b), (1, .ref (aw_r ad 0)), (2, .ref (aw_m ad 0)), (3, .ref (aw_o ad)), (4, .int (nI (6 * t)))] := hl
        refine lv_aload_n hx hb d_La_law_351 rfl (lv_at hl 3 rfl) ?_
        refine lv_aload_n hx hb d_La_law_352 rfl (lv_at hl 1 rfl) ?_
        refine lv_iload hx hb d_La_law_353 (lv_at hl 5 rfl) ?_
        refine lv_iconst (v := nI 1) hx hb d_La_law_355 (by decide +kernel) ?_
        refine lv_iadd hx hb d_La_law_356 ?_
        refine aw_ti (nI_add (6 * t) 1) ?_
        refine va_sld hx hb hX hbl hbA hS (i := (nI ((6 * t) + 1))) (vp_in_nI (by omega) (by omega)) d_La_law_357 ?_
        refine aw_ti (y := nI j) (by rw [nI_clamp (by omega)]; exact hc0.symm) ?_
        obtain ⟨_, he145⟩ := zr_M0 hSh
        refine va_callv (va_runV (As := [.int (nI j)]) (rest := []) ⟨hx, hb, hml, hown, hG⟩ (k_Mo_free1V l D g ad N0 zG144 zO zX zY zA zB zM zI zL zK zN zF zQ j hj) (aw_wV 1 hG gw_10_55 gw_10_52 gw_0_10 gw_10_53 gw_10_54 rfl rfl hd_Mo_free ⟨Nat.le_of_ble_eq_true rfl, Nat.le_of_ble_eq_true rfl⟩) (ag_qV (va_recv hK hP rfl he145) hP hD hSh hU hS) rfl rfl hl.1 rfl (lv_room (Nat.le_of_ble_eq_true rfl)) d_La_law_358 ⟨by omega, by omega⟩) hS (fun _ _ h => h) (fun _ h => h) ?_
        clear hP hD hSh hS he145
        intro u8 t8 H locs ht _ _ hB _ _ hS
        obtain ⟨L, hP, hD, hSh⟩ := hB
        rw [ht] at hP
        clear ht
        obtain ⟨zM146, ezM146⟩ : ∃ z : Nat → Nat × Nat, v_Mo_free1V_zM zM zI j = z := ⟨_, rfl⟩
        rw [ezM146] at hSh
        obtain ⟨zI147, ezI147⟩ : ∃ z : Nat → Nat → Int32, v_Mo_free1V_zI zM zI j = z := ⟨_, rfl⟩
        rw [ezI147] at hSh
        refine lv_goto (tgt := 853) hx hb d_La_law_361 (by decide) ?_
        refine lv_iinc (k := 5) (v := nI (6 * t + 6)) hx hb d_La_law_853 hl rfl (aw_inc (6 * t) 6 6 (by decide +kernel)) (by decide) rfl (fun ls hl => ?_)
        have hl : lv_has ls 8 [(4, .int (nI (6 * t + 6))), (5, .int (nI 0)), (0, .ref b), (1, .ref (aw_r ad 0)), (2, .ref (aw_m ad 0)), (3, .ref (aw_o ad))] := hl
        refine lv_goto (tgt := 23) hx hb d_La_law_856 (by decide) ?_
        have hl := lv_sub hl (l' := [(0, .ref b), (1, .ref (aw_r ad 0)), (2, .ref (aw_m ad 0)), (3, .ref (aw_o ad)), (4, .int (nI (6 * t + 6)))]) [2, 3, 4, 5, 0] rfl
        refine W.widen (k := 85 + (t + 1)) (n := 1246 + 6 * (t + 1)) (by omega) (by omega) ?_
        have hR : az_R zG144 zO zX zY zA zB zM146 zI147 zL := by
          subst ezI147 ezM146 ezG144
          exact r_free1 hR hj
        exact ih (t + 1) zG144 zO zX zY zA zB zM146 zI147 zL zK zN (nI 0) zQ _ _ L ls (by omega) hP hD hSh hR hS (by first | exact hl | simpa [Nat.mul_add] using hl)
    · refine aw_ti (y := nI 4) (by rw [hs3]) ?_
      refine lv_tableIn (tgt := 364) (off := 324) hx hb d_La_law_40 (by decide +kernel) (by decide +kernel) (by decide +kernel) (by decide) ?_
      obtain ⟨c0, hc0⟩ : ∃ z : Int32, z = xs (6 * t + 1) := ⟨_, rfl⟩
      rcases aw_rng 4 (by decide) c0 with hc | ⟨j, hj, rfl⟩
      · refine lv_aload_n hx hb d_La_law_364 rfl (lv_at hl 1 rfl) ?_
        refine lv_aload_n hx hb d_La_law_365 rfl (lv_at hl 0 rfl) ?_
        refine lv_iload hx hb d_La_law_366 (lv_at hl 4 rfl) ?_
        refine lv_iconst (v := nI 1) hx hb d_La_law_368 (by decide +kernel) ?_
        refine lv_iadd hx hb d_La_law_369 ?_
        refine aw_ti (nI_add (6 * t) 1) ?_
        refine va_sld hx hb hX hbl hbA hS (i := (nI ((6 * t) + 1))) (vp_in_nI (by omega) (by omega)) d_La_law_370 ?_
        refine aw_ti (y := c0) (by rw [nI_clamp (by omega)]; exact hc0.symm) ?_
        refine lv_aload_n hx hb d_La_law_371 rfl (lv_at hl 3 rfl) ?_
        refine va_calli (vx_runSW (As := [.ref (aw_r ad 0), .int c0, .ref (aw_o ad)]) (rest := []) ⟨hx, hb, hml, hown, hG⟩ (k_La_stageXcV l hst D g ad N0 zG zO zX zY zA zB zM zI zL zK zN zF zQ c0 hc) (aw_wW 3 hG gw_5_48 gw_5_46 gw_0_0 gw_5_47 rfl rfl hd_La_stage ⟨Nat.le_of_ble_eq_true rfl, Nat.le_of_ble_eq_true rfl⟩) (ag_qS hP hD hSh hU hS) rfl rfl hl.1 rfl (lv_room (Nat.le_of_ble_eq_true rfl)) d_La_law_372 ⟨by omega, by omega⟩) hS (fun _ _ h => h) (fun _ h => h) ?_
        clear hP hD hSh hS
        intro x148 u8 t8 H locs ht _ ex148 hB _ _ hS
        obtain ⟨L, hP, hD, hSh⟩ := hB
        rw [ht] at hP
        clear ht
        subst ex148
        refine lv_istore hx hb d_La_law_375 hl (by decide) rfl (fun ls hl => ?_)
        have hl : lv_has ls 8 [(5, .int (nI 1)), (0, .ref b), (1, .ref (aw_r ad 0)), (2, .ref (aw_m ad 0)), (3, .ref (aw_o ad)), (4, .int (nI (6 * t)))] := hl
        refine lv_aload_n hx hb d_La_law_377 rfl (lv_at hl 3 rfl) ?_
        refine lv_aload_n hx hb d_La_law_378 rfl (lv_at hl 1 rfl) ?_
        refine lv_iload hx hb d_La_law_379 (lv_at hl 5 rfl) ?_
        refine lv_iconst (v := nI 1) hx hb d_La_law_381 (by decide +kernel) ?_
        refine lv_iadd hx hb d_La_law_382 ?_
        refine aw_ti (nI_add (6 * t) 1) ?_
        refine va_sld hx hb hX hbl hbA hS (i := (nI ((6 * t) + 1))) (vp_in_nI (by omega) (by omega)) d_La_law_383 ?_
        refine aw_ti (y := c0) (by rw [nI_clamp (by omega)]; exact hc0.symm) ?_
        obtain ⟨_, he149⟩ := zr_M0 hSh
        refine va_calli (va_runV (As := [.int c0]) (rest := []) ⟨hx, hb, hml, hown, hG⟩ (k_Mo_stageXcV l D g ad N0 zG zO zX zY zA zB zM zI zL zK zN zF zQ c0 hc) (aw_wV 1 hG gw_10_59 gw_10_56 gw_0_10 gw_10_57 gw_10_58 rfl rfl hd_Mo_stage ⟨Nat.le_of_ble_eq_true rfl, Nat.le_of_ble_eq_true rfl⟩) (ag_qV (va_recv hK hP rfl he149) hP hD hSh hU hS) rfl rfl hl.1 rfl (lv_room (Nat.le_of_ble_eq_true rfl)) d_La_law_384 ⟨by omega, by omega⟩) hS (fun _ _ h => h) (fun _ h => h) ?_
        clear hP hD hSh hS he149
        intro x150 u8 t8 H locs ht _ ex150 hB _ _ hS
        obtain ⟨L, hP, hD, hSh⟩ := hB
        rw [ht] at hP
        clear ht
        have ex150 := ex150.symm
        refine lv_istore hx hb d_La_law_387 hl (by decide) rfl (fun ls hl => ?_)
        have hl : lv_has ls 8 [(6, .int x150), (5, .int (nI 1)), (0, .ref b), (1, .ref (aw_r ad 0)), (2, .ref (aw_m ad 0)), (3, .ref (aw_o ad)), (4, .int (nI (6 * t)))] := hl
        refine lv_goto (tgt := 853) hx hb d_La_law_389 (by decide) ?_
        refine lv_iinc (k := 6) (v := nI (6 * t + 6)) hx hb d_La_law_853 hl rfl (aw_inc (6 * t) 6 6 (by decide +kernel)) (by decide) rfl (fun ls hl => ?_)
        have hl : lv_has ls 8 [(4, .int (nI (6 * t + 6))), (6, .int x150), (5, .int (nI 1)), (0, .ref b), (1, .ref (aw_r ad 0)), (2, .ref (aw_m ad 0)), (3, .ref (aw_o ad))] := hl
        refine lv_goto (tgt := 23) hx hb d_La_law_856 (by decide) ?_
        have hl := lv_sub hl (l' := [(0, .ref b), (1, .ref (aw_r ad 0)), (2, .ref (aw_m ad 0)), (3, .ref (aw_o ad)), (4, .int (nI (6 * t + 6)))]) [3, 4, 5, 6, 0] rfl
        refine W.widen (k := 85 + (t + 1)) (n := 1246 + 6 * (t + 1)) (by omega) (by omega) ?_
        exact ih (t + 1) zG zO zX zY zA zB zM zI zL zK zN (nI 1) zQ _ _ L ls (by omega) hP hD hSh hR hS (by first | exact hl | simpa [Nat.mul_add] using hl)
      · have hgj := hSh.2.2.2.2.1 j hj
        have hq1 : (zM j).1 = (zG j).1 := by rw [hR.1 j hj]
        have hq2 : (zM j).2 = (zG j).2 := by rw [hR.1 j hj]
        refine lv_aload_n hx hb d_La_law_364 rfl (lv_at hl 1 rfl) ?_
        refine lv_aload_n hx hb d_La_law_365 rfl (lv_at hl 0 rfl) ?_
        refine lv_iload hx hb d_La_law_366 (lv_at hl 4 rfl) ?_
        refine lv_iconst (v := nI 1) hx hb d_La_law_368 (by decide +kernel) ?_
        refine lv_iadd hx hb d_La_law_369 ?_
        refine aw_ti (nI_add (6 * t) 1) ?_
        refine va_sld hx hb hX hbl hbA hS (i := (nI ((6 * t) + 1))) (vp_in_nI (by omega) (by omega)) d_La_law_370 ?_
        refine aw_ti (y := nI j) (by rw [nI_clamp (by omega)]; exact hc0.symm) ?_
        refine lv_aload_n hx hb d_La_law_371 rfl (lv_at hl 3 rfl) ?_
        refine va_calli (vx_runSW (As := [.ref (aw_r ad 0), .int (nI j), .ref (aw_o ad)]) (rest := []) ⟨hx, hb, hml, hown, hG⟩ (k_La_stage1V l hst D g ad N0 zG zO zX zY zA zB zM zI zL zK zN zF zQ j hj) (aw_wW 3 hG gw_5_48 gw_5_46 gw_0_0 gw_5_47 rfl rfl hd_La_stage ⟨Nat.le_of_ble_eq_true rfl, Nat.le_of_ble_eq_true rfl⟩) (ag_qS hP hD hSh hU hS) rfl rfl hl.1 rfl (lv_room (Nat.le_of_ble_eq_true rfl)) d_La_law_372 ⟨by omega, by omega⟩) hS (fun _ _ h => h) (fun _ h => h) ?_
        clear hP hD hSh hS
        intro x151 u8 t8 H locs ht _ ex151 hB _ _ hS
        obtain ⟨L, hP, hD, hSh⟩ := hB
        rw [ht] at hP
        clear ht
        subst ex151
        obtain ⟨zQ152, ezQ152⟩ : ∃ z : Int64, v_La_stage1V_zQ zG j = z := ⟨_, rfl⟩
        rw [ezQ152] at hSh
        refine lv_istore hx hb d_La_law_375 hl (by decide) rfl (fun ls hl => ?_)
        have hl : lv_has ls 8 [(5, .int (nI 0)), (0, .ref b), (1, .ref (aw_r ad 0)), (2, .ref (aw_m ad 0)), (3, .ref (aw_o ad)), (4, .int (nI (6 * t)))] := hl
        refine lv_aload_n hx hb d_La_law_377 rfl (lv_at hl 3 rfl) ?_
        refine lv_aload_n hx hb d_La_law_378 rfl (lv_at hl 1 rfl) ?_
        refine lv_iload hx hb d_La_law_379 (lv_at hl 5 rfl) ?_
        refine lv_iconst (v := nI 1) hx hb d_La_law_381 (by decide +kernel) ?_
        refine lv_iadd hx hb d_La_law_382 ?_
        refine aw_ti (nI_add (6 * t) 1) ?_
        refine va_sld hx hb hX hbl hbA hS (i := (nI ((6 * t) + 1))) (vp_in_nI (by omega) (by omega)) d_La_law_383 ?_
        refine aw_ti (y := nI j) (by rw [nI_clamp (by omega)]; exact hc0.symm) ?_
        obtain ⟨_, he153⟩ := zr_M0 hSh
        refine va_calli (va_runV (As := [.int (nI j)]) (rest := []) ⟨hx, hb, hml, hown, hG⟩ (k_Mo_stage1V l D g ad N0 zG zO zX zY zA zB zM zI zL zK zN zF zQ152 j hj) (aw_wV 1 hG gw_10_59 gw_10_56 gw_0_10 gw_10_57 gw_10_58 rfl rfl hd_Mo_stage ⟨Nat.le_of_ble_eq_true rfl, Nat.le_of_ble_eq_true rfl⟩) (ag_qV (va_recv hK hP rfl he153) hP hD hSh hU hS) rfl rfl hl.1 rfl (lv_room (Nat.le_of_ble_eq_true rfl)) d_La_law_384 ⟨by omega, by omega⟩) hS (fun _ _ h => h) (fun _ h => h) ?_
        clear hP hD hSh hS he153
        intro x154 u8 t8 H locs ht _ ex154 hB _ _ hS
        obtain ⟨L, hP, hD, hSh⟩ := hB
        rw [ht] at hP
        clear ht
        have ex154 := ex154.symm
        refine lv_istore hx hb d_La_law_387 hl (by decide) rfl (fun ls hl => ?_)
        have hl : lv_has ls 8 [(6, .int x154), (5, .int (nI 0)), (0, .ref b), (1, .ref (aw_r ad 0)), (2, .ref (aw_m ad 0)), (3, .ref (aw_o ad)), (4, .int (nI (6 * t)))] := hl
        refine lv_goto (tgt := 853) hx hb d_La_law_389 (by decide) ?_
        refine lv_iinc (k := 6) (v := nI (6 * t + 6)) hx hb d_La_law_853 hl rfl (aw_inc (6 * t) 6 6 (by decide +kernel)) (by decide) rfl (fun ls hl => ?_)
        have hl : lv_has ls 8 [(4, .int (nI (6 * t + 6))), (6, .int x154), (5, .int (nI 0)), (0, .ref b), (1, .ref (aw_r ad 0)), (2, .ref (aw_m ad 0)), (3, .ref (aw_o ad))] := hl
        refine lv_goto (tgt := 23) hx hb d_La_law_856 (by decide) ?_
        have hl := lv_sub hl (l' := [(0, .ref b), (1, .ref (aw_r ad 0)), (2, .ref (aw_m ad 0)), (3, .ref (aw_o ad)), (4, .int (nI (6 * t + 6)))]) [3, 4, 5, 6, 0] rfl
        refine W.widen (k := 85 + (t + 1)) (n := 1246 + 6 * (t + 1)) (by omega) (by omega) ?_
        exact ih (t + 1) zG zO zX zY zA zB zM zI zL zK zN (nI 0) zQ152 _ _ L ls (by omega) hP hD hSh hR hS (by first | exact hl | simpa [Nat.mul_add] using hl)
    · refine aw_ti (y := nI 5) (by rw [hs3]) ?_
      refine lv_tableIn (tgt := 392) (off := 352) hx hb d_La_law_40 (by decide +kernel) (by decide +kernel) (by decide +kernel) (by decide) ?_
      obtain ⟨c0, hc0⟩ : ∃ z : Int32, z = xs (6 * t + 1) := ⟨_, rfl⟩
      obtain ⟨s2, hs2⟩ : ∃ z : Int32, z = xs (6 * t + 2) := ⟨_, rfl⟩
      obtain ⟨s3, hs3⟩ : ∃ z : Int32, z = xs (6 * t + 3) := ⟨_, rfl⟩
      obtain ⟨s4, hs4⟩ : ∃ z : Int32, z = xs (6 * t + 4) := ⟨_, rfl⟩
      rcases aw_rng 4 (by decide) c0 with hc | ⟨j, hj, rfl⟩
      · refine lv_aload_n hx hb d_La_law_392 rfl (lv_at hl 1 rfl) ?_
        refine lv_aload_n hx hb d_La_law_393 rfl (lv_at hl 0 rfl) ?_
        refine lv_iload hx hb d_La_law_394 (lv_at hl 4 rfl) ?_
        refine lv_iconst (v := nI 1) hx hb d_La_law_396 (by decide +kernel) ?_
        refine lv_iadd hx hb d_La_law_397 ?_
        refine aw_ti (nI_add (6 * t) 1) ?_
        refine va_sld hx hb hX hbl hbA hS (i := (nI ((6 * t) + 1))) (vp_in_nI (by omega) (by omega)) d_La_law_398 ?_
        refine aw_ti (y := c0) (by rw [nI_clamp (by omega)]; exact hc0.symm) ?_
        refine lv_aload_n hx hb d_La_law_399 rfl (lv_at hl 0 rfl) ?_
        refine lv_iload hx hb d_La_law_400 (lv_at hl 4 rfl) ?_
        refine lv_iconst (v := nI 2) hx hb d_La_law_402 (by decide +kernel) ?_
        refine lv_iadd hx hb d_La_law_403 ?_
        refine aw_ti (nI_add (6 * t) 2) ?_
        refine va_sld hx hb hX hbl hbA hS (i := (nI ((6 * t) + 2))) (vp_in_nI (by omega) (by omega)) d_La_law_404 ?_
        refine aw_ti (y := s2) (by rw [nI_clamp (by omega)]; exact hs2.symm) ?_
        have hj155 : ∀ x156 : Int32, (if s2 = 0 then nI 0 else nI 1) = x156 → W p l e room_1 s m #[Value.ref b] below meth c H locs (85 + t) (1246 + 6 * t) (lw_Z below #[Value.ref b] s) (F0 m 413 ls [.int x156, .int c0, .ref (aw_r ad 0)]) := by
          intro x156 ebx156
          refine lv_aload_n hx hb d_La_law_413 rfl (lv_at hl 0 rfl) ?_
          refine lv_iload hx hb d_La_law_414 (lv_at hl 4 rfl) ?_
          refine lv_iconst (v := nI 3) hx hb d_La_law_416 (by decide +kernel) ?_
          refine lv_iadd hx hb d_La_law_417 ?_
          refine aw_ti (nI_add (6 * t) 3) ?_
          refine va_sld hx hb hX hbl hbA hS (i := (nI ((6 * t) + 3))) (vp_in_nI (by omega) (by omega)) d_La_law_418 ?_
          refine aw_ti (y := s3) (by rw [nI_clamp (by omega)]; exact hs3.symm) ?_
          refine lv_i2l hx hb d_La_law_419 rfl ?_
          refine ag_topl (fun y157 ey157 => ?_)
          refine lv_bipush (v := nI 32) hx hb d_La_law_420 (by decide +kernel) ?_
          refine lv_lshl hx hb d_La_law_422 rfl ?_
          refine ag_topl (fun y158 ey158 => ?_)
          refine lv_aload_n hx hb d_La_law_423 rfl (lv_at hl 0 rfl) ?_
          refine lv_iload hx hb d_La_law_424 (lv_at hl 4 rfl) ?_
          refine lv_iconst (v := nI 4) hx hb d_La_law_426 (by decide +kernel) ?_
          refine lv_iadd hx hb d_La_law_427 ?_
          refine aw_ti (nI_add (6 * t) 4) ?_
          refine va_sld hx hb hX hbl hbA hS (i := (nI ((6 * t) + 4))) (vp_in_nI (by omega) (by omega)) d_La_law_428 ?_
          refine aw_ti (y := s4) (by rw [nI_clamp (by omega)]; exact hs4.symm) ?_
          refine lv_i2l hx hb d_La_law_429 rfl ?_
          refine ag_topl (fun y159 ey159 => ?_)
          refine lv_ldc2 (v := 4294967295) hx hb hown (hG _ gw_13_3) d_La_law_430 ?_
          refine lv_land hx hb d_La_law_433 ?_
          refine ag_topl (fun y160 ey160 => ?_)
          refine lv_lor hx hb d_La_law_434 ?_
          refine ag_topl (fun y161 ey161 => ?_)
          refine lv_aload_n hx hb d_La_law_435 rfl (lv_at hl 3 rfl) ?_
          refine va_calli (vx_runSW (As := [.ref (aw_r ad 0), .int c0, .int x156, .long y161, .ref (aw_o ad)]) (rest := []) ⟨hx, hb, hml, hown, hG⟩ (k_La_blockXcV l hst D g ad N0 zG zO zX zY zA zB zM zI zL zK zN zF zQ c0 x156 y161 hc) (aw_wW 5 hG gw_5_55 gw_5_53 gw_0_0 gw_5_54 rfl rfl hd_La_block ⟨Nat.le_of_ble_eq_true rfl, Nat.le_of_ble_eq_true rfl⟩) (ag_qS hP hD hSh hU hS) rfl rfl hl.1 rfl (lv_room (Nat.le_of_ble_eq_true rfl)) d_La_law_436 ⟨by omega, by omega⟩) hS (fun _ _ h => h) (fun _ h => h) ?_
          clear hP hD hSh hS
          intro x162 u8 t8 H locs ht _ ex162 hB _ _ hS
          obtain ⟨L, hP, hD, hSh⟩ := hB
          rw [ht] at hP
          clear ht
          subst ex162
          refine lv_istore hx hb d_La_law_439 hl (by decide) rfl (fun ls hl => ?_)
          have hl : lv_has ls 8 [(5, .int (nI 1)), (0, .ref b), (1, .ref (aw_r ad 0)), (2, .ref (aw_m ad 0)), (3, .ref (aw_o ad)), (4, .int (nI (6 * t)))] := hl
          refine lv_aload_n hx hb d_La_law_441 rfl (lv_at hl 3 rfl) ?_
          refine lv_aload_n hx hb d_La_law_442 rfl (lv_at hl 1 rfl) ?_
          refine lv_iload hx hb d_La_law_443 (lv_at hl 5 rfl) ?_
          refine lv_iconst (v := nI 1) hx hb d_La_law_445 (by decide +kernel) ?_
          refine lv_iadd hx hb d_La_law_446 ?_
          refine aw_ti (nI_add (6 * t) 1) ?_
          refine va_sld hx hb hX hbl hbA hS (i := (nI ((6 * t) + 1))) (vp_in_nI (by omega) (by omega)) d_La_law_447 ?_
          refine aw_ti (y := c0) (by rw [nI_clamp (by omega)]; exact hc0.symm) ?_
          refine lv_aload_n hx hb d_La_law_448 rfl (lv_at hl 1 rfl) ?_
          refine lv_iload hx hb d_La_law_449 (lv_at hl 5 rfl) ?_
          refine lv_iconst (v := nI 2) hx hb d_La_law_451 (by decide +kernel) ?_
          refine lv_iadd hx hb d_La_law_452 ?_
          refine aw_ti (nI_add (6 * t) 2) ?_
          refine va_sld hx hb hX hbl hbA hS (i := (nI ((6 * t) + 2))) (vp_in_nI (by omega) (by omega)) d_La_law_453 ?_
          refine aw_ti (y := s2) (by rw [nI_clamp (by omega)]; exact hs2.symm) ?_
          have hj163 : ∀ x164 : Int32, (if s2 = 0 then nI 0 else nI 1) = x164 → W p l e room_1 s m #[Value.ref b] below meth c H locs ((85 + t) + 1) ((1246 + 6 * t) + 6) (lw_Z below #[Value.ref b] s) (F0 m 462 ls [.int x164, .int c0, .ref (aw_m ad 0)]) := by
            intro x164 ebx164
            refine lv_aload_n hx hb d_La_law_462 rfl (lv_at hl 1 rfl) ?_
            refine lv_iload hx hb d_La_law_463 (lv_at hl 5 rfl) ?_
            refine lv_iconst (v := nI 3) hx hb d_La_law_465 (by decide +kernel) ?_
            refine lv_iadd hx hb d_La_law_466 ?_
            refine aw_ti (nI_add (6 * t) 3) ?_
            refine va_sld hx hb hX hbl hbA hS (i := (nI ((6 * t) + 3))) (vp_in_nI (by omega) (by omega)) d_La_law_467 ?_
            refine aw_ti (y := s3) (by rw [nI_clamp (by omega)]; exact hs3.symm) ?_
            refine lv_i2l hx hb d_La_law_468 rfl ?_
            refine ag_topl (fun y165 ey165 => ?_)
            refine lv_bipush (v := nI 32) hx hb d_La_law_469 (by decide +kernel) ?_
            refine lv_lshl hx hb d_La_law_471 rfl ?_
            refine ag_topl (fun y166 ey166 => ?_)
            refine lv_aload_n hx hb d_La_law_472 rfl (lv_at hl 1 rfl) ?_
            refine lv_iload hx hb d_La_law_473 (lv_at hl 5 rfl) ?_
            refine lv_iconst (v := nI 4) hx hb d_La_law_475 (by decide +kernel) ?_
            refine lv_iadd hx hb d_La_law_476 ?_
            refine aw_ti (nI_add (6 * t) 4) ?_
            refine va_sld hx hb hX hbl hbA hS (i := (nI ((6 * t) + 4))) (vp_in_nI (by omega) (by omega)) d_La_law_477 ?_
            refine aw_ti (y := s4) (by rw [nI_clamp (by omega)]; exact hs4.symm) ?_
            refine lv_i2l hx hb d_La_law_478 rfl ?_
            refine ag_topl (fun y167 ey167 => ?_)
            refine lv_ldc2 (v := 4294967295) hx hb hown (hG _ gw_13_3) d_La_law_479 ?_
            refine lv_land hx hb d_La_law_482 ?_
            refine ag_topl (fun y168 ey168 => ?_)
            refine lv_lor hx hb d_La_law_483 ?_
            refine ag_topl (fun y169 ey169 => ?_)
            obtain ⟨_, he170⟩ := zr_M0 hSh
            refine va_calll (va_runV (As := [.int c0, .int x164, .long y169]) (rest := []) ⟨hx, hb, hml, hown, hG⟩ (k_Mo_blockXcV l D g ad N0 zG zO zX zY zA zB zM zI zL zK zN zF zQ c0 x164 y169 hc) (aw_wV 3 hG gw_11_3 gw_11_0 gw_0_10 gw_11_1 gw_11_2 rfl rfl hd_Mo_block ⟨Nat.le_of_ble_eq_true rfl, Nat.le_of_ble_eq_true rfl⟩) (ag_qV (va_recv hK hP rfl he170) hP hD hSh hU hS) rfl rfl hl.1 rfl (lv_room (Nat.le_of_ble_eq_true rfl)) d_La_law_484 ⟨by omega, by omega⟩) hS (fun _ _ h => h) (fun _ h => h) ?_
            clear hP hD hSh hS he170
            intro y171 u8 t8 H locs ht _ ey171 hB _ _ hS
            obtain ⟨L, hP, hD, hSh⟩ := hB
            rw [ht] at hP
            clear ht
            have ey171 := ey171.symm
            refine lv_lstore hx hb d_La_law_487 hl (by decide) rfl (fun ls hl => ?_)
            have hl : lv_has ls 8 [(6, .long y171), (5, .int (nI 1)), (0, .ref b), (1, .ref (aw_r ad 0)), (2, .ref (aw_m ad 0)), (3, .ref (aw_o ad)), (4, .int (nI (6 * t)))] := hl
            refine lv_goto (tgt := 853) hx hb d_La_law_489 (by decide) ?_
            refine lv_iinc (k := 6) (v := nI (6 * t + 6)) hx hb d_La_law_853 hl rfl (aw_inc (6 * t) 6 6 (by decide +kernel)) (by decide) rfl (fun ls hl => ?_)
            have hl : lv_has ls 8 [(4, .int (nI (6 * t + 6))), (6, .long y171), (5, .int (nI 1)), (0, .ref b), (1, .ref (aw_r ad 0)), (2, .ref (aw_m ad 0)), (3, .ref (aw_o ad))] := hl
            refine lv_goto (tgt := 23) hx hb d_La_law_856 (by decide) ?_
            have hl := lv_sub hl (l' := [(0, .ref b), (1, .ref (aw_r ad 0)), (2, .ref (aw_m ad 0)), (3, .ref (aw_o ad)), (4, .int (nI (6 * t + 6)))]) [3, 4, 5, 6, 0] rfl
            refine W.widen (k := 85 + (t + 1)) (n := 1246 + 6 * (t + 1)) (by omega) (by omega) ?_
            exact ih (t + 1) zG zO zX zY zA zB zM zI zL zK zN (nI 1) zQ _ _ L ls (by omega) hP hD hSh hR hS (by first | exact hl | simpa [Nat.mul_add] using hl)
          refine lv_if_eq (tgt := 461) hx hb d_La_law_454 (by decide) (fun h9 => ?_) (fun h9 => ?_)
          · refine lv_iconst (v := nI 0) hx hb d_La_law_461 (by decide +kernel) ?_
            exact hj163 _ (if_pos h9)
          · refine lv_iconst (v := nI 1) hx hb d_La_law_457 (by decide +kernel) ?_
            refine lv_goto (tgt := 462) hx hb d_La_law_458 (by decide) ?_
            exact hj163 _ (if_neg h9)
        refine lv_if_eq (tgt := 412) hx hb d_La_law_405 (by decide) (fun h9 => ?_) (fun h9 => ?_)
        · refine lv_iconst (v := nI 0) hx hb d_La_law_412 (by decide +kernel) ?_
          exact hj155 _ (if_pos h9)
        · refine lv_iconst (v := nI 1) hx hb d_La_law_408 (by decide +kernel) ?_
          refine lv_goto (tgt := 413) hx hb d_La_law_409 (by decide) ?_
          exact hj155 _ (if_neg h9)
      · have hgj := hSh.2.2.2.2.1 j hj
        have hq1 : (zM j).1 = (zG j).1 := by rw [hR.1 j hj]
        have hq2 : (zM j).2 = (zG j).2 := by rw [hR.1 j hj]
        by_cases hs : 2 ≤ (zG j).1
        · obtain ⟨kc, hkc, hci, hco⟩ := hR.2.1 j hj (by omega)
          refine lv_aload_n hx hb d_La_law_392 rfl (lv_at hl 1 rfl) ?_
          refine lv_aload_n hx hb d_La_law_393 rfl (lv_at hl 0 rfl) ?_
          refine lv_iload hx hb d_La_law_394 (lv_at hl 4 rfl) ?_
          refine lv_iconst (v := nI 1) hx hb d_La_law_396 (by decide +kernel) ?_
          refine lv_iadd hx hb d_La_law_397 ?_
          refine aw_ti (nI_add (6 * t) 1) ?_
          refine va_sld hx hb hX hbl hbA hS (i := (nI ((6 * t) + 1))) (vp_in_nI (by omega) (by omega)) d_La_law_398 ?_
          refine aw_ti (y := nI j) (by rw [nI_clamp (by omega)]; exact hc0.symm) ?_
          refine lv_aload_n hx hb d_La_law_399 rfl (lv_at hl 0 rfl) ?_
          refine lv_iload hx hb d_La_law_400 (lv_at hl 4 rfl) ?_
          refine lv_iconst (v := nI 2) hx hb d_La_law_402 (by decide +kernel) ?_
          refine lv_iadd hx hb d_La_law_403 ?_
          refine aw_ti (nI_add (6 * t) 2) ?_
          refine va_sld hx hb hX hbl hbA hS (i := (nI ((6 * t) + 2))) (vp_in_nI (by omega) (by omega)) d_La_law_404 ?_
          refine aw_ti (y := s2) (by rw [nI_clamp (by omega)]; exact hs2.symm) ?_
          have hj172 : ∀ x173 : Int32, (if s2 = 0 then nI 0 else nI 1) = x173 → W p l e room_1 s m #[Value.ref b] below meth c H locs (85 + t) (1246 + 6 * t) (lw_Z below #[Value.ref b] s) (F0 m 413 ls [.int x173, .int (nI j), .ref (aw_r ad 0)]) := by
            intro x173 ebx173
            refine lv_aload_n hx hb d_La_law_413 rfl (lv_at hl 0 rfl) ?_
            refine lv_iload hx hb d_La_law_414 (lv_at hl 4 rfl) ?_
            refine lv_iconst (v := nI 3) hx hb d_La_law_416 (by decide +kernel) ?_
            refine lv_iadd hx hb d_La_law_417 ?_
            refine aw_ti (nI_add (6 * t) 3) ?_
            refine va_sld hx hb hX hbl hbA hS (i := (nI ((6 * t) + 3))) (vp_in_nI (by omega) (by omega)) d_La_law_418 ?_
            refine aw_ti (y := s3) (by rw [nI_clamp (by omega)]; exact hs3.symm) ?_
            refine lv_i2l hx hb d_La_law_419 rfl ?_
            refine ag_topl (fun y174 ey174 => ?_)
            refine lv_bipush (v := nI 32) hx hb d_La_law_420 (by decide +kernel) ?_
            refine lv_lshl hx hb d_La_law_422 rfl ?_
            refine ag_topl (fun y175 ey175 => ?_)
            refine lv_aload_n hx hb d_La_law_423 rfl (lv_at hl 0 rfl) ?_
            refine lv_iload hx hb d_La_law_424 (lv_at hl 4 rfl) ?_
            refine lv_iconst (v := nI 4) hx hb d_La_law_426 (by decide +kernel) ?_
            refine lv_iadd hx hb d_La_law_427 ?_
            refine aw_ti (nI_add (6 * t) 4) ?_
            refine va_sld hx hb hX hbl hbA hS (i := (nI ((6 * t) + 4))) (vp_in_nI (by omega) (by omega)) d_La_law_428 ?_
            refine aw_ti (y := s4) (by rw [nI_clamp (by omega)]; exact hs4.symm) ?_
            refine lv_i2l hx hb d_La_law_429 rfl ?_
            refine ag_topl (fun y176 ey176 => ?_)
            refine lv_ldc2 (v := 4294967295) hx hb hown (hG _ gw_13_3) d_La_law_430 ?_
            refine lv_land hx hb d_La_law_433 ?_
            refine ag_topl (fun y177 ey177 => ?_)
            refine lv_lor hx hb d_La_law_434 ?_
            refine ag_topl (fun y178 ey178 => ?_)
            refine lv_aload_n hx hb d_La_law_435 rfl (lv_at hl 3 rfl) ?_
            refine va_calli (vx_runSW (As := [.ref (aw_r ad 0), .int (nI j), .int x173, .long y178, .ref (aw_o ad)]) (rest := []) ⟨hx, hb, hml, hown, hG⟩ (k_La_block1V l hst D g ad N0 zG zO zX zY zA zB zM zI zL zK zN zF zQ j x173 y178 hj (by omega)) (aw_wW 5 hG gw_5_55 gw_5_53 gw_0_0 gw_5_54 rfl rfl hd_La_block ⟨Nat.le_of_ble_eq_true rfl, Nat.le_of_ble_eq_true rfl⟩) (ag_qS hP hD hSh hU hS) rfl rfl hl.1 rfl (lv_room (Nat.le_of_ble_eq_true rfl)) d_La_law_436 ⟨by omega, by omega⟩) hS (fun _ _ h => h) (fun _ h => h) ?_
            clear hP hD hSh hS
            intro x179 u8 t8 H locs ht _ ex179 hB _ _ hS
            obtain ⟨L, hP, hD, hSh⟩ := hB
            rw [ht] at hP
            clear ht
            subst ex179
            obtain ⟨zQ180, ezQ180⟩ : ∃ z : Int64, v_La_block1V_zQ zO zA j x173 y178 = z := ⟨_, rfl⟩
            rw [ezQ180] at hSh
            refine lv_istore hx hb d_La_law_439 hl (by decide) rfl (fun ls hl => ?_)
            have hl : lv_has ls 8 [(5, .int (nI 0)), (0, .ref b), (1, .ref (aw_r ad 0)), (2, .ref (aw_m ad 0)), (3, .ref (aw_o ad)), (4, .int (nI (6 * t)))] := hl
            refine lv_aload_n hx hb d_La_law_441 rfl (lv_at hl 3 rfl) ?_
            refine lv_aload_n hx hb d_La_law_442 rfl (lv_at hl 1 rfl) ?_
            refine lv_iload hx hb d_La_law_443 (lv_at hl 5 rfl) ?_
            refine lv_iconst (v := nI 1) hx hb d_La_law_445 (by decide +kernel) ?_
            refine lv_iadd hx hb d_La_law_446 ?_
            refine aw_ti (nI_add (6 * t) 1) ?_
            refine va_sld hx hb hX hbl hbA hS (i := (nI ((6 * t) + 1))) (vp_in_nI (by omega) (by omega)) d_La_law_447 ?_
            refine aw_ti (y := nI j) (by rw [nI_clamp (by omega)]; exact hc0.symm) ?_
            refine lv_aload_n hx hb d_La_law_448 rfl (lv_at hl 1 rfl) ?_
            refine lv_iload hx hb d_La_law_449 (lv_at hl 5 rfl) ?_
            refine lv_iconst (v := nI 2) hx hb d_La_law_451 (by decide +kernel) ?_
            refine lv_iadd hx hb d_La_law_452 ?_
            refine aw_ti (nI_add (6 * t) 2) ?_
            refine va_sld hx hb hX hbl hbA hS (i := (nI ((6 * t) + 2))) (vp_in_nI (by omega) (by omega)) d_La_law_453 ?_
            refine aw_ti (y := s2) (by rw [nI_clamp (by omega)]; exact hs2.symm) ?_
            have hj181 : ∀ x182 : Int32, (if s2 = 0 then nI 0 else nI 1) = x182 → W p l e room_1 s m #[Value.ref b] below meth c H locs ((85 + t) + 1) ((1246 + 6 * t) + 6) (lw_Z below #[Value.ref b] s) (F0 m 462 ls [.int x182, .int (nI j), .ref (aw_m ad 0)]) := by
              intro x182 ebx182
              refine lv_aload_n hx hb d_La_law_462 rfl (lv_at hl 1 rfl) ?_
              refine lv_iload hx hb d_La_law_463 (lv_at hl 5 rfl) ?_
              refine lv_iconst (v := nI 3) hx hb d_La_law_465 (by decide +kernel) ?_
              refine lv_iadd hx hb d_La_law_466 ?_
              refine aw_ti (nI_add (6 * t) 3) ?_
              refine va_sld hx hb hX hbl hbA hS (i := (nI ((6 * t) + 3))) (vp_in_nI (by omega) (by omega)) d_La_law_467 ?_
              refine aw_ti (y := s3) (by rw [nI_clamp (by omega)]; exact hs3.symm) ?_
              refine lv_i2l hx hb d_La_law_468 rfl ?_
              refine ag_topl (fun y183 ey183 => ?_)
              refine lv_bipush (v := nI 32) hx hb d_La_law_469 (by decide +kernel) ?_
              refine lv_lshl hx hb d_La_law_471 rfl ?_
              refine ag_topl (fun y184 ey184 => ?_)
              refine lv_aload_n hx hb d_La_law_472 rfl (lv_at hl 1 rfl) ?_
              refine lv_iload hx hb d_La_law_473 (lv_at hl 5 rfl) ?_
              refine lv_iconst (v := nI 4) hx hb d_La_law_475 (by decide +kernel) ?_
              refine lv_iadd hx hb d_La_law_476 ?_
              refine aw_ti (nI_add (6 * t) 4) ?_
              refine va_sld hx hb hX hbl hbA hS (i := (nI ((6 * t) + 4))) (vp_in_nI (by omega) (by omega)) d_La_law_477 ?_
              refine aw_ti (y := s4) (by rw [nI_clamp (by omega)]; exact hs4.symm) ?_
              refine lv_i2l hx hb d_La_law_478 rfl ?_
              refine ag_topl (fun y185 ey185 => ?_)
              refine lv_ldc2 (v := 4294967295) hx hb hown (hG _ gw_13_3) d_La_law_479 ?_
              refine lv_land hx hb d_La_law_482 ?_
              refine ag_topl (fun y186 ey186 => ?_)
              refine lv_lor hx hb d_La_law_483 ?_
              refine ag_topl (fun y187 ey187 => ?_)
              obtain ⟨_, he188⟩ := zr_M0 hSh
              refine va_calll (va_runV (As := [.int (nI j), .int x182, .long y187]) (rest := []) ⟨hx, hb, hml, hown, hG⟩ (k_Mo_block1V l D g ad N0 zG zO zX zY zA zB zM zI zL zK zN zF zQ180 j kc x182 y187 hj (by omega) hkc hci) (aw_wV 3 hG gw_11_3 gw_11_0 gw_0_10 gw_11_1 gw_11_2 rfl rfl hd_Mo_block ⟨Nat.le_of_ble_eq_true rfl, Nat.le_of_ble_eq_true rfl⟩) (ag_qV (va_recv hK hP rfl he188) hP hD hSh hU hS) rfl rfl hl.1 rfl (lv_room (Nat.le_of_ble_eq_true rfl)) d_La_law_484 ⟨by omega, by omega⟩) hS (fun _ _ h => h) (fun _ h => h) ?_
              clear hP hD hSh hS he188
              intro y189 u8 t8 H locs ht _ ey189 hB _ _ hS
              obtain ⟨L, hP, hD, hSh⟩ := hB
              rw [ht] at hP
              clear ht
              obtain ⟨zI190, ezI190⟩ : ∃ z : Nat → Nat → Int32, v_Mo_block1V_zI zI zL j kc x182 y187 = z := ⟨_, rfl⟩
              rw [ezI190] at hSh
              have ey189 := ey189.symm
              refine lv_lstore hx hb d_La_law_487 hl (by decide) rfl (fun ls hl => ?_)
              have hl : lv_has ls 8 [(6, .long y189), (5, .int (nI 0)), (0, .ref b), (1, .ref (aw_r ad 0)), (2, .ref (aw_m ad 0)), (3, .ref (aw_o ad)), (4, .int (nI (6 * t)))] := hl
              refine lv_goto (tgt := 853) hx hb d_La_law_489 (by decide) ?_
              refine lv_iinc (k := 6) (v := nI (6 * t + 6)) hx hb d_La_law_853 hl rfl (aw_inc (6 * t) 6 6 (by decide +kernel)) (by decide) rfl (fun ls hl => ?_)
              have hl : lv_has ls 8 [(4, .int (nI (6 * t + 6))), (6, .long y189), (5, .int (nI 0)), (0, .ref b), (1, .ref (aw_r ad 0)), (2, .ref (aw_m ad 0)), (3, .ref (aw_o ad))] := hl
              refine lv_goto (tgt := 23) hx hb d_La_law_856 (by decide) ?_
              have hl := lv_sub hl (l' := [(0, .ref b), (1, .ref (aw_r ad 0)), (2, .ref (aw_m ad 0)), (3, .ref (aw_o ad)), (4, .int (nI (6 * t + 6)))]) [3, 4, 5, 6, 0] rfl
              refine W.widen (k := 85 + (t + 1)) (n := 1246 + 6 * (t + 1)) (by omega) (by omega) ?_
              have hR : az_R zG zO zX zY zA zB zM zI190 zL := by
                subst ey189 ezI190 ey187 ey186 ey185 ey184 ey183 ebx182 ezQ180 ey178 ey177 ey176 ey175 ey174 ebx173
                exact r_block1 hR hj hs hkc hci hco
              exact ih (t + 1) zG zO zX zY zA zB zM zI190 zL (nI kc) (az_wn kc) (nI 0) zQ180 _ _ L ls (by omega) hP hD hSh hR hS (by first | exact hl | simpa [Nat.mul_add] using hl)
            refine lv_if_eq (tgt := 461) hx hb d_La_law_454 (by decide) (fun h9 => ?_) (fun h9 => ?_)
            · refine lv_iconst (v := nI 0) hx hb d_La_law_461 (by decide +kernel) ?_
              exact hj181 _ (if_pos h9)
            · refine lv_iconst (v := nI 1) hx hb d_La_law_457 (by decide +kernel) ?_
              refine lv_goto (tgt := 462) hx hb d_La_law_458 (by decide) ?_
              exact hj181 _ (if_neg h9)
          refine lv_if_eq (tgt := 412) hx hb d_La_law_405 (by decide) (fun h9 => ?_) (fun h9 => ?_)
          · refine lv_iconst (v := nI 0) hx hb d_La_law_412 (by decide +kernel) ?_
            exact hj172 _ (if_pos h9)
          · refine lv_iconst (v := nI 1) hx hb d_La_law_408 (by decide +kernel) ?_
            refine lv_goto (tgt := 413) hx hb d_La_law_409 (by decide) ?_
            exact hj172 _ (if_neg h9)
        · refine lv_aload_n hx hb d_La_law_392 rfl (lv_at hl 1 rfl) ?_
          refine lv_aload_n hx hb d_La_law_393 rfl (lv_at hl 0 rfl) ?_
          refine lv_iload hx hb d_La_law_394 (lv_at hl 4 rfl) ?_
          refine lv_iconst (v := nI 1) hx hb d_La_law_396 (by decide +kernel) ?_
          refine lv_iadd hx hb d_La_law_397 ?_
          refine aw_ti (nI_add (6 * t) 1) ?_
          refine va_sld hx hb hX hbl hbA hS (i := (nI ((6 * t) + 1))) (vp_in_nI (by omega) (by omega)) d_La_law_398 ?_
          refine aw_ti (y := nI j) (by rw [nI_clamp (by omega)]; exact hc0.symm) ?_
          refine lv_aload_n hx hb d_La_law_399 rfl (lv_at hl 0 rfl) ?_
          refine lv_iload hx hb d_La_law_400 (lv_at hl 4 rfl) ?_
          refine lv_iconst (v := nI 2) hx hb d_La_law_402 (by decide +kernel) ?_
          refine lv_iadd hx hb d_La_law_403 ?_
          refine aw_ti (nI_add (6 * t) 2) ?_
          refine va_sld hx hb hX hbl hbA hS (i := (nI ((6 * t) + 2))) (vp_in_nI (by omega) (by omega)) d_La_law_404 ?_
          refine aw_ti (y := s2) (by rw [nI_clamp (by omega)]; exact hs2.symm) ?_
          have hj191 : ∀ x192 : Int32, (if s2 = 0 then nI 0 else nI 1) = x192 → W p l e room_1 s m #[Value.ref b] below meth c H locs (85 + t) (1246 + 6 * t) (lw_Z below #[Value.ref b] s) (F0 m 413 ls [.int x192, .int (nI j), .ref (aw_r ad 0)]) := by
            intro x192 ebx192
            refine lv_aload_n hx hb d_La_law_413 rfl (lv_at hl 0 rfl) ?_
            refine lv_iload hx hb d_La_law_414 (lv_at hl 4 rfl) ?_
            refine lv_iconst (v := nI 3) hx hb d_La_law_416 (by decide +kernel) ?_
            refine lv_iadd hx hb d_La_law_417 ?_
            refine aw_ti (nI_add (6 * t) 3) ?_
            refine va_sld hx hb hX hbl hbA hS (i := (nI ((6 * t) + 3))) (vp_in_nI (by omega) (by omega)) d_La_law_418 ?_
            refine aw_ti (y := s3) (by rw [nI_clamp (by omega)]; exact hs3.symm) ?_
            refine lv_i2l hx hb d_La_law_419 rfl ?_
            refine ag_topl (fun y193 ey193 => ?_)
            refine lv_bipush (v := nI 32) hx hb d_La_law_420 (by decide +kernel) ?_
            refine lv_lshl hx hb d_La_law_422 rfl ?_
            refine ag_topl (fun y194 ey194 => ?_)
            refine lv_aload_n hx hb d_La_law_423 rfl (lv_at hl 0 rfl) ?_
            refine lv_iload hx hb d_La_law_424 (lv_at hl 4 rfl) ?_
            refine lv_iconst (v := nI 4) hx hb d_La_law_426 (by decide +kernel) ?_
            refine lv_iadd hx hb d_La_law_427 ?_
            refine aw_ti (nI_add (6 * t) 4) ?_
            refine va_sld hx hb hX hbl hbA hS (i := (nI ((6 * t) + 4))) (vp_in_nI (by omega) (by omega)) d_La_law_428 ?_
            refine aw_ti (y := s4) (by rw [nI_clamp (by omega)]; exact hs4.symm) ?_
            refine lv_i2l hx hb d_La_law_429 rfl ?_
            refine ag_topl (fun y195 ey195 => ?_)
            refine lv_ldc2 (v := 4294967295) hx hb hown (hG _ gw_13_3) d_La_law_430 ?_
            refine lv_land hx hb d_La_law_433 ?_
            refine ag_topl (fun y196 ey196 => ?_)
            refine lv_lor hx hb d_La_law_434 ?_
            refine ag_topl (fun y197 ey197 => ?_)
            refine lv_aload_n hx hb d_La_law_435 rfl (lv_at hl 3 rfl) ?_
            refine va_calli (vx_runSW (As := [.ref (aw_r ad 0), .int (nI j), .int x192, .long y197, .ref (aw_o ad)]) (rest := []) ⟨hx, hb, hml, hown, hG⟩ (k_La_blockXsV l hst D g ad N0 zG zO zX zY zA zB zM zI zL zK zN zF zQ j x192 y197 hj (by omega)) (aw_wW 5 hG gw_5_55 gw_5_53 gw_0_0 gw_5_54 rfl rfl hd_La_block ⟨Nat.le_of_ble_eq_true rfl, Nat.le_of_ble_eq_true rfl⟩) (ag_qS hP hD hSh hU hS) rfl rfl hl.1 rfl (lv_room (Nat.le_of_ble_eq_true rfl)) d_La_law_436 ⟨by omega, by omega⟩) hS (fun _ _ h => h) (fun _ h => h) ?_
            clear hP hD hSh hS
            intro x198 u8 t8 H locs ht _ ex198 hB _ _ hS
            obtain ⟨L, hP, hD, hSh⟩ := hB
            rw [ht] at hP
            clear ht
            subst ex198
            refine lv_istore hx hb d_La_law_439 hl (by decide) rfl (fun ls hl => ?_)
            have hl : lv_has ls 8 [(5, .int (nI 2)), (0, .ref b), (1, .ref (aw_r ad 0)), (2, .ref (aw_m ad 0)), (3, .ref (aw_o ad)), (4, .int (nI (6 * t)))] := hl
            refine lv_aload_n hx hb d_La_law_441 rfl (lv_at hl 3 rfl) ?_
            refine lv_aload_n hx hb d_La_law_442 rfl (lv_at hl 1 rfl) ?_
            refine lv_iload hx hb d_La_law_443 (lv_at hl 5 rfl) ?_
            refine lv_iconst (v := nI 1) hx hb d_La_law_445 (by decide +kernel) ?_
            refine lv_iadd hx hb d_La_law_446 ?_
            refine aw_ti (nI_add (6 * t) 1) ?_
            refine va_sld hx hb hX hbl hbA hS (i := (nI ((6 * t) + 1))) (vp_in_nI (by omega) (by omega)) d_La_law_447 ?_
            refine aw_ti (y := nI j) (by rw [nI_clamp (by omega)]; exact hc0.symm) ?_
            refine lv_aload_n hx hb d_La_law_448 rfl (lv_at hl 1 rfl) ?_
            refine lv_iload hx hb d_La_law_449 (lv_at hl 5 rfl) ?_
            refine lv_iconst (v := nI 2) hx hb d_La_law_451 (by decide +kernel) ?_
            refine lv_iadd hx hb d_La_law_452 ?_
            refine aw_ti (nI_add (6 * t) 2) ?_
            refine va_sld hx hb hX hbl hbA hS (i := (nI ((6 * t) + 2))) (vp_in_nI (by omega) (by omega)) d_La_law_453 ?_
            refine aw_ti (y := s2) (by rw [nI_clamp (by omega)]; exact hs2.symm) ?_
            have hj199 : ∀ x200 : Int32, (if s2 = 0 then nI 0 else nI 1) = x200 → W p l e room_1 s m #[Value.ref b] below meth c H locs ((85 + t) + 1) ((1246 + 6 * t) + 6) (lw_Z below #[Value.ref b] s) (F0 m 462 ls [.int x200, .int (nI j), .ref (aw_m ad 0)]) := by
              intro x200 ebx200
              refine lv_aload_n hx hb d_La_law_462 rfl (lv_at hl 1 rfl) ?_
              refine lv_iload hx hb d_La_law_463 (lv_at hl 5 rfl) ?_
              refine lv_iconst (v := nI 3) hx hb d_La_law_465 (by decide +kernel) ?_
              refine lv_iadd hx hb d_La_law_466 ?_
              refine aw_ti (nI_add (6 * t) 3) ?_
              refine va_sld hx hb hX hbl hbA hS (i := (nI ((6 * t) + 3))) (vp_in_nI (by omega) (by omega)) d_La_law_467 ?_
              refine aw_ti (y := s3) (by rw [nI_clamp (by omega)]; exact hs3.symm) ?_
              refine lv_i2l hx hb d_La_law_468 rfl ?_
              refine ag_topl (fun y201 ey201 => ?_)
              refine lv_bipush (v := nI 32) hx hb d_La_law_469 (by decide +kernel) ?_
              refine lv_lshl hx hb d_La_law_471 rfl ?_
              refine ag_topl (fun y202 ey202 => ?_)
              refine lv_aload_n hx hb d_La_law_472 rfl (lv_at hl 1 rfl) ?_
              refine lv_iload hx hb d_La_law_473 (lv_at hl 5 rfl) ?_
              refine lv_iconst (v := nI 4) hx hb d_La_law_475 (by decide +kernel) ?_
              refine lv_iadd hx hb d_La_law_476 ?_
              refine aw_ti (nI_add (6 * t) 4) ?_
              refine va_sld hx hb hX hbl hbA hS (i := (nI ((6 * t) + 4))) (vp_in_nI (by omega) (by omega)) d_La_law_477 ?_
              refine aw_ti (y := s4) (by rw [nI_clamp (by omega)]; exact hs4.symm) ?_
              refine lv_i2l hx hb d_La_law_478 rfl ?_
              refine ag_topl (fun y203 ey203 => ?_)
              refine lv_ldc2 (v := 4294967295) hx hb hown (hG _ gw_13_3) d_La_law_479 ?_
              refine lv_land hx hb d_La_law_482 ?_
              refine ag_topl (fun y204 ey204 => ?_)
              refine lv_lor hx hb d_La_law_483 ?_
              refine ag_topl (fun y205 ey205 => ?_)
              obtain ⟨_, he206⟩ := zr_M0 hSh
              refine va_calll (va_runV (As := [.int (nI j), .int x200, .long y205]) (rest := []) ⟨hx, hb, hml, hown, hG⟩ (k_Mo_blockXsV l D g ad N0 zG zO zX zY zA zB zM zI zL zK zN zF zQ j x200 y205 hj (by omega)) (aw_wV 3 hG gw_11_3 gw_11_0 gw_0_10 gw_11_1 gw_11_2 rfl rfl hd_Mo_block ⟨Nat.le_of_ble_eq_true rfl, Nat.le_of_ble_eq_true rfl⟩) (ag_qV (va_recv hK hP rfl he206) hP hD hSh hU hS) rfl rfl hl.1 rfl (lv_room (Nat.le_of_ble_eq_true rfl)) d_La_law_484 ⟨by omega, by omega⟩) hS (fun _ _ h => h) (fun _ h => h) ?_
              clear hP hD hSh hS he206
              intro y207 u8 t8 H locs ht _ ey207 hB _ _ hS
              obtain ⟨L, hP, hD, hSh⟩ := hB
              rw [ht] at hP
              clear ht
              have ey207 := ey207.symm
              refine lv_lstore hx hb d_La_law_487 hl (by decide) rfl (fun ls hl => ?_)
              have hl : lv_has ls 8 [(6, .long y207), (5, .int (nI 2)), (0, .ref b), (1, .ref (aw_r ad 0)), (2, .ref (aw_m ad 0)), (3, .ref (aw_o ad)), (4, .int (nI (6 * t)))] := hl
              refine lv_goto (tgt := 853) hx hb d_La_law_489 (by decide) ?_
              refine lv_iinc (k := 6) (v := nI (6 * t + 6)) hx hb d_La_law_853 hl rfl (aw_inc (6 * t) 6 6 (by decide +kernel)) (by decide) rfl (fun ls hl => ?_)
              have hl : lv_has ls 8 [(4, .int (nI (6 * t + 6))), (6, .long y207), (5, .int (nI 2)), (0, .ref b), (1, .ref (aw_r ad 0)), (2, .ref (aw_m ad 0)), (3, .ref (aw_o ad))] := hl
              refine lv_goto (tgt := 23) hx hb d_La_law_856 (by decide) ?_
              have hl := lv_sub hl (l' := [(0, .ref b), (1, .ref (aw_r ad 0)), (2, .ref (aw_m ad 0)), (3, .ref (aw_o ad)), (4, .int (nI (6 * t + 6)))]) [3, 4, 5, 6, 0] rfl
              refine W.widen (k := 85 + (t + 1)) (n := 1246 + 6 * (t + 1)) (by omega) (by omega) ?_
              exact ih (t + 1) zG zO zX zY zA zB zM zI zL zK zN (nI 2) zQ _ _ L ls (by omega) hP hD hSh hR hS (by first | exact hl | simpa [Nat.mul_add] using hl)
            refine lv_if_eq (tgt := 461) hx hb d_La_law_454 (by decide) (fun h9 => ?_) (fun h9 => ?_)
            · refine lv_iconst (v := nI 0) hx hb d_La_law_461 (by decide +kernel) ?_
              exact hj199 _ (if_pos h9)
            · refine lv_iconst (v := nI 1) hx hb d_La_law_457 (by decide +kernel) ?_
              refine lv_goto (tgt := 462) hx hb d_La_law_458 (by decide) ?_
              exact hj199 _ (if_neg h9)
          refine lv_if_eq (tgt := 412) hx hb d_La_law_405 (by decide) (fun h9 => ?_) (fun h9 => ?_)
          · refine lv_iconst (v := nI 0) hx hb d_La_law_412 (by decide +kernel) ?_
            exact hj191 _ (if_pos h9)
          · refine lv_iconst (v := nI 1) hx hb d_La_law_408 (by decide +kernel) ?_
            refine lv_goto (tgt := 413) hx hb d_La_law_409 (by decide) ?_
            exact hj191 _ (if_neg h9)
    · refine aw_ti (y := nI 6) (by rw [hs3]) ?_
      refine lv_tableIn (tgt := 492) (off := 452) hx hb d_La_law_40 (by decide +kernel) (by decide +kernel) (by decide +kernel) (by decide) ?_
      obtain ⟨c0, hc0⟩ : ∃ z : Int32, z = xs (6 * t + 1) := ⟨_, rfl⟩
      obtain ⟨s2, hs2⟩ : ∃ z : Int32, z = xs (6 * t + 2) := ⟨_, rfl⟩
      rcases aw_rng 4 (by decide) c0 with hc | ⟨j, hj, rfl⟩
      · refine lv_aload_n hx hb d_La_law_492 rfl (lv_at hl 1 rfl) ?_
        refine lv_aload_n hx hb d_La_law_493 rfl (lv_at hl 0 rfl) ?_
        refine lv_iload hx hb d_La_law_494 (lv_at hl 4 rfl) ?_
        refine lv_iconst (v := nI 1) hx hb d_La_law_496 (by decide +kernel) ?_
        refine lv_iadd hx hb d_La_law_497 ?_
        refine aw_ti (nI_add (6 * t) 1) ?_
        refine va_sld hx hb hX hbl hbA hS (i := (nI ((6 * t) + 1))) (vp_in_nI (by omega) (by omega)) d_La_law_498 ?_
        refine aw_ti (y := c0) (by rw [nI_clamp (by omega)]; exact hc0.symm) ?_
        refine lv_aload_n hx hb d_La_law_499 rfl (lv_at hl 0 rfl) ?_
        refine lv_iload hx hb d_La_law_500 (lv_at hl 4 rfl) ?_
        refine lv_iconst (v := nI 2) hx hb d_La_law_502 (by decide +kernel) ?_
        refine lv_iadd hx hb d_La_law_503 ?_
        refine aw_ti (nI_add (6 * t) 2) ?_
        refine va_sld hx hb hX hbl hbA hS (i := (nI ((6 * t) + 2))) (vp_in_nI (by omega) (by omega)) d_La_law_504 ?_
        refine aw_ti (y := s2) (by rw [nI_clamp (by omega)]; exact hs2.symm) ?_
        refine lv_aload_n hx hb d_La_law_505 rfl (lv_at hl 3 rfl) ?_
        refine va_calli (vx_runSW (As := [.ref (aw_r ad 0), .int c0, .int s2, .ref (aw_o ad)]) (rest := []) ⟨hx, hb, hml, hown, hG⟩ (k_La_wordXcV l hst D g ad N0 zG zO zX zY zA zB zM zI zL zK zN zF zQ c0 s2 hc) (aw_wW 4 hG gw_7_9 gw_7_7 gw_0_0 gw_7_8 rfl rfl hd_La_word ⟨Nat.le_of_ble_eq_true rfl, Nat.le_of_ble_eq_true rfl⟩) (ag_qS hP hD hSh hU hS) rfl rfl hl.1 rfl (lv_room (Nat.le_of_ble_eq_true rfl)) d_La_law_506 ⟨by omega, by omega⟩) hS (fun _ _ h => h) (fun _ h => h) ?_
        clear hP hD hSh hS
        intro x208 u8 t8 H locs ht _ ex208 hB _ _ hS
        obtain ⟨L, hP, hD, hSh⟩ := hB
        rw [ht] at hP
        clear ht
        subst ex208
        refine lv_istore hx hb d_La_law_509 hl (by decide) rfl (fun ls hl => ?_)
        have hl : lv_has ls 8 [(5, .int (nI 1)), (0, .ref b), (1, .ref (aw_r ad 0)), (2, .ref (aw_m ad 0)), (3, .ref (aw_o ad)), (4, .int (nI (6 * t)))] := hl
        refine lv_aload_n hx hb d_La_law_511 rfl (lv_at hl 3 rfl) ?_
        refine lv_aload_n hx hb d_La_law_512 rfl (lv_at hl 1 rfl) ?_
        refine lv_iload hx hb d_La_law_513 (lv_at hl 5 rfl) ?_
        refine lv_iconst (v := nI 1) hx hb d_La_law_515 (by decide +kernel) ?_
        refine lv_iadd hx hb d_La_law_516 ?_
        refine aw_ti (nI_add (6 * t) 1) ?_
        refine va_sld hx hb hX hbl hbA hS (i := (nI ((6 * t) + 1))) (vp_in_nI (by omega) (by omega)) d_La_law_517 ?_
        refine aw_ti (y := c0) (by rw [nI_clamp (by omega)]; exact hc0.symm) ?_
        refine lv_aload_n hx hb d_La_law_518 rfl (lv_at hl 1 rfl) ?_
        refine lv_iload hx hb d_La_law_519 (lv_at hl 5 rfl) ?_
        refine lv_iconst (v := nI 2) hx hb d_La_law_521 (by decide +kernel) ?_
        refine lv_iadd hx hb d_La_law_522 ?_
        refine aw_ti (nI_add (6 * t) 2) ?_
        refine va_sld hx hb hX hbl hbA hS (i := (nI ((6 * t) + 2))) (vp_in_nI (by omega) (by omega)) d_La_law_523 ?_
        refine aw_ti (y := s2) (by rw [nI_clamp (by omega)]; exact hs2.symm) ?_
        obtain ⟨_, he209⟩ := zr_M0 hSh
        refine va_calli (va_runV (As := [.int c0, .int s2]) (rest := []) ⟨hx, hb, hml, hown, hG⟩ (k_Mo_wordXcV l D g ad N0 zG zO zX zY zA zB zM zI zL zK zN zF zQ c0 s2 hc) (aw_wV 2 hG gw_12_14 gw_12_11 gw_0_10 gw_12_12 gw_12_13 rfl rfl hd_Mo_word ⟨Nat.le_of_ble_eq_true rfl, Nat.le_of_ble_eq_true rfl⟩) (ag_qV (va_recv hK hP rfl he209) hP hD hSh hU hS) rfl rfl hl.1 rfl (lv_room (Nat.le_of_ble_eq_true rfl)) d_La_law_524 ⟨by omega, by omega⟩) hS (fun _ _ h => h) (fun _ h => h) ?_
        clear hP hD hSh hS he209
        intro x210 u8 t8 H locs ht _ ex210 hB _ _ hS
        obtain ⟨L, hP, hD, hSh⟩ := hB
        rw [ht] at hP
        clear ht
        have ex210 := ex210.symm
        refine lv_istore hx hb d_La_law_527 hl (by decide) rfl (fun ls hl => ?_)
        have hl : lv_has ls 8 [(6, .int x210), (5, .int (nI 1)), (0, .ref b), (1, .ref (aw_r ad 0)), (2, .ref (aw_m ad 0)), (3, .ref (aw_o ad)), (4, .int (nI (6 * t)))] := hl
        refine lv_goto (tgt := 853) hx hb d_La_law_529 (by decide) ?_
        refine lv_iinc (k := 6) (v := nI (6 * t + 6)) hx hb d_La_law_853 hl rfl (aw_inc (6 * t) 6 6 (by decide +kernel)) (by decide) rfl (fun ls hl => ?_)
        have hl : lv_has ls 8 [(4, .int (nI (6 * t + 6))), (6, .int x210), (5, .int (nI 1)), (0, .ref b), (1, .ref (aw_r ad 0)), (2, .ref (aw_m ad 0)), (3, .ref (aw_o ad))] := hl
        refine lv_goto (tgt := 23) hx hb d_La_law_856 (by decide) ?_
        have hl := lv_sub hl (l' := [(0, .ref b), (1, .ref (aw_r ad 0)), (2, .ref (aw_m ad 0)), (3, .ref (aw_o ad)), (4, .int (nI (6 * t + 6)))]) [3, 4, 5, 6, 0] rfl
        refine W.widen (k := 85 + (t + 1)) (n := 1246 + 6 * (t + 1)) (by omega) (by omega) ?_
        exact ih (t + 1) zG zO zX zY zA zB zM zI zL zK zN (nI 1) zQ _ _ L ls (by omega) hP hD hSh hR hS (by first | exact hl | simpa [Nat.mul_add] using hl)
      · have hgj := hSh.2.2.2.2.1 j hj
        have hq1 : (zM j).1 = (zG j).1 := by rw [hR.1 j hj]
        have hq2 : (zM j).2 = (zG j).2 := by rw [hR.1 j hj]
        by_cases hs : 2 ≤ (zG j).1
        · obtain ⟨kc, hkc, hci, hco⟩ := hR.2.1 j hj (by omega)
          refine lv_aload_n hx hb d_La_law_492 rfl (lv_at hl 1 rfl) ?_
          refine lv_aload_n hx hb d_La_law_493 rfl (lv_at hl 0 rfl) ?_
          refine lv_iload hx hb d_La_law_494 (lv_at hl 4 rfl) ?_
          refine lv_iconst (v := nI 1) hx hb d_La_law_496 (by decide +kernel) ?_
          refine lv_iadd hx hb d_La_law_497 ?_
          refine aw_ti (nI_add (6 * t) 1) ?_
          refine va_sld hx hb hX hbl hbA hS (i := (nI ((6 * t) + 1))) (vp_in_nI (by omega) (by omega)) d_La_law_498 ?_
          refine aw_ti (y := nI j) (by rw [nI_clamp (by omega)]; exact hc0.symm) ?_
          refine lv_aload_n hx hb d_La_law_499 rfl (lv_at hl 0 rfl) ?_
          refine lv_iload hx hb d_La_law_500 (lv_at hl 4 rfl) ?_
          refine lv_iconst (v := nI 2) hx hb d_La_law_502 (by decide +kernel) ?_
          refine lv_iadd hx hb d_La_law_503 ?_
          refine aw_ti (nI_add (6 * t) 2) ?_
          refine va_sld hx hb hX hbl hbA hS (i := (nI ((6 * t) + 2))) (vp_in_nI (by omega) (by omega)) d_La_law_504 ?_
          refine aw_ti (y := s2) (by rw [nI_clamp (by omega)]; exact hs2.symm) ?_
          refine lv_aload_n hx hb d_La_law_505 rfl (lv_at hl 3 rfl) ?_
          refine va_calli (vx_runSW (As := [.ref (aw_r ad 0), .int (nI j), .int s2, .ref (aw_o ad)]) (rest := []) ⟨hx, hb, hml, hown, hG⟩ (k_La_word1V l hst D g ad N0 zG zO zX zY zA zB zM zI zL zK zN zF zQ j s2 hj (by omega)) (aw_wW 4 hG gw_7_9 gw_7_7 gw_0_0 gw_7_8 rfl rfl hd_La_word ⟨Nat.le_of_ble_eq_true rfl, Nat.le_of_ble_eq_true rfl⟩) (ag_qS hP hD hSh hU hS) rfl rfl hl.1 rfl (lv_room (Nat.le_of_ble_eq_true rfl)) d_La_law_506 ⟨by omega, by omega⟩) hS (fun _ _ h => h) (fun _ h => h) ?_
          clear hP hD hSh hS
          intro x211 u8 t8 H locs ht _ ex211 hB _ _ hS
          obtain ⟨L, hP, hD, hSh⟩ := hB
          rw [ht] at hP
          clear ht
          subst ex211
          obtain ⟨zQ212, ezQ212⟩ : ∃ z : Int64, v_La_word1V_zQ zO zA j s2 = z := ⟨_, rfl⟩
          rw [ezQ212] at hSh
          refine lv_istore hx hb d_La_law_509 hl (by decide) rfl (fun ls hl => ?_)
          have hl : lv_has ls 8 [(5, .int (nI 0)), (0, .ref b), (1, .ref (aw_r ad 0)), (2, .ref (aw_m ad 0)), (3, .ref (aw_o ad)), (4, .int (nI (6 * t)))] := hl
          refine lv_aload_n hx hb d_La_law_511 rfl (lv_at hl 3 rfl) ?_
          refine lv_aload_n hx hb d_La_law_512 rfl (lv_at hl 1 rfl) ?_
          refine lv_iload hx hb d_La_law_513 (lv_at hl 5 rfl) ?_
          refine lv_iconst (v := nI 1) hx hb d_La_law_515 (by decide +kernel) ?_
          refine lv_iadd hx hb d_La_law_516 ?_
          refine aw_ti (nI_add (6 * t) 1) ?_
          refine va_sld hx hb hX hbl hbA hS (i := (nI ((6 * t) + 1))) (vp_in_nI (by omega) (by omega)) d_La_law_517 ?_
          refine aw_ti (y := nI j) (by rw [nI_clamp (by omega)]; exact hc0.symm) ?_
          refine lv_aload_n hx hb d_La_law_518 rfl (lv_at hl 1 rfl) ?_
          refine lv_iload hx hb d_La_law_519 (lv_at hl 5 rfl) ?_
          refine lv_iconst (v := nI 2) hx hb d_La_law_521 (by decide +kernel) ?_
          refine lv_iadd hx hb d_La_law_522 ?_
          refine aw_ti (nI_add (6 * t) 2) ?_
          refine va_sld hx hb hX hbl hbA hS (i := (nI ((6 * t) + 2))) (vp_in_nI (by omega) (by omega)) d_La_law_523 ?_
          refine aw_ti (y := s2) (by rw [nI_clamp (by omega)]; exact hs2.symm) ?_
          obtain ⟨_, he213⟩ := zr_M0 hSh
          refine va_calli (va_runV (As := [.int (nI j), .int s2]) (rest := []) ⟨hx, hb, hml, hown, hG⟩ (k_Mo_word1V l D g ad N0 zG zO zX zY zA zB zM zI zL zK zN zF zQ212 j kc s2 hj (by omega) hkc hci) (aw_wV 2 hG gw_12_14 gw_12_11 gw_0_10 gw_12_12 gw_12_13 rfl rfl hd_Mo_word ⟨Nat.le_of_ble_eq_true rfl, Nat.le_of_ble_eq_true rfl⟩) (ag_qV (va_recv hK hP rfl he213) hP hD hSh hU hS) rfl rfl hl.1 rfl (lv_room (Nat.le_of_ble_eq_true rfl)) d_La_law_524 ⟨by omega, by omega⟩) hS (fun _ _ h => h) (fun _ h => h) ?_
          clear hP hD hSh hS he213
          intro x214 u8 t8 H locs ht _ ex214 hB _ _ hS
          obtain ⟨L, hP, hD, hSh⟩ := hB
          rw [ht] at hP
          clear ht
          obtain ⟨zI215, ezI215⟩ : ∃ z : Nat → Nat → Int32, v_Mo_word1V_zI zI zL j kc s2 = z := ⟨_, rfl⟩
          rw [ezI215] at hSh
          have ex214 := ex214.symm
          refine lv_istore hx hb d_La_law_527 hl (by decide) rfl (fun ls hl => ?_)
          have hl : lv_has ls 8 [(6, .int x214), (5, .int (nI 0)), (0, .ref b), (1, .ref (aw_r ad 0)), (2, .ref (aw_m ad 0)), (3, .ref (aw_o ad)), (4, .int (nI (6 * t)))] := hl
          refine lv_goto (tgt := 853) hx hb d_La_law_529 (by decide) ?_
          refine lv_iinc (k := 6) (v := nI (6 * t + 6)) hx hb d_La_law_853 hl rfl (aw_inc (6 * t) 6 6 (by decide +kernel)) (by decide) rfl (fun ls hl => ?_)
          have hl : lv_has ls 8 [(4, .int (nI (6 * t + 6))), (6, .int x214), (5, .int (nI 0)), (0, .ref b), (1, .ref (aw_r ad 0)), (2, .ref (aw_m ad 0)), (3, .ref (aw_o ad))] := hl
          refine lv_goto (tgt := 23) hx hb d_La_law_856 (by decide) ?_
          have hl := lv_sub hl (l' := [(0, .ref b), (1, .ref (aw_r ad 0)), (2, .ref (aw_m ad 0)), (3, .ref (aw_o ad)), (4, .int (nI (6 * t + 6)))]) [3, 4, 5, 6, 0] rfl
          refine W.widen (k := 85 + (t + 1)) (n := 1246 + 6 * (t + 1)) (by omega) (by omega) ?_
          have hR : az_R zG zO zX zY zA zB zM zI215 zL := by
            subst ex214 ezI215 ezQ212
            exact r_word1 hR hj hs hkc hci hco
          exact ih (t + 1) zG zO zX zY zA zB zM zI215 zL (nI kc) (az_wn kc) (nI 0) zQ212 _ _ L ls (by omega) hP hD hSh hR hS (by first | exact hl | simpa [Nat.mul_add] using hl)
        · refine lv_aload_n hx hb d_La_law_492 rfl (lv_at hl 1 rfl) ?_
          refine lv_aload_n hx hb d_La_law_493 rfl (lv_at hl 0 rfl) ?_
          refine lv_iload hx hb d_La_law_494 (lv_at hl 4 rfl) ?_
          refine lv_iconst (v := nI 1) hx hb d_La_law_496 (by decide +kernel) ?_
          refine lv_iadd hx hb d_La_law_497 ?_
          refine aw_ti (nI_add (6 * t) 1) ?_
          refine va_sld hx hb hX hbl hbA hS (i := (nI ((6 * t) + 1))) (vp_in_nI (by omega) (by omega)) d_La_law_498 ?_
          refine aw_ti (y := nI j) (by rw [nI_clamp (by omega)]; exact hc0.symm) ?_
          refine lv_aload_n hx hb d_La_law_499 rfl (lv_at hl 0 rfl) ?_
          refine lv_iload hx hb d_La_law_500 (lv_at hl 4 rfl) ?_
          refine lv_iconst (v := nI 2) hx hb d_La_law_502 (by decide +kernel) ?_
          refine lv_iadd hx hb d_La_law_503 ?_
          refine aw_ti (nI_add (6 * t) 2) ?_
          refine va_sld hx hb hX hbl hbA hS (i := (nI ((6 * t) + 2))) (vp_in_nI (by omega) (by omega)) d_La_law_504 ?_
          refine aw_ti (y := s2) (by rw [nI_clamp (by omega)]; exact hs2.symm) ?_
          refine lv_aload_n hx hb d_La_law_505 rfl (lv_at hl 3 rfl) ?_
          refine va_calli (vx_runSW (As := [.ref (aw_r ad 0), .int (nI j), .int s2, .ref (aw_o ad)]) (rest := []) ⟨hx, hb, hml, hown, hG⟩ (k_La_wordXsV l hst D g ad N0 zG zO zX zY zA zB zM zI zL zK zN zF zQ j s2 hj (by omega)) (aw_wW 4 hG gw_7_9 gw_7_7 gw_0_0 gw_7_8 rfl rfl hd_La_word ⟨Nat.le_of_ble_eq_true rfl, Nat.le_of_ble_eq_true rfl⟩) (ag_qS hP hD hSh hU hS) rfl rfl hl.1 rfl (lv_room (Nat.le_of_ble_eq_true rfl)) d_La_law_506 ⟨by omega, by omega⟩) hS (fun _ _ h => h) (fun _ h => h) ?_
          clear hP hD hSh hS
          intro x216 u8 t8 H locs ht _ ex216 hB _ _ hS
          obtain ⟨L, hP, hD, hSh⟩ := hB
          rw [ht] at hP
          clear ht
          subst ex216
          refine lv_istore hx hb d_La_law_509 hl (by decide) rfl (fun ls hl => ?_)
          have hl : lv_has ls 8 [(5, .int (nI 2)), (0, .ref b), (1, .ref (aw_r ad 0)), (2, .ref (aw_m ad 0)), (3, .ref (aw_o ad)), (4, .int (nI (6 * t)))] := hl
          refine lv_aload_n hx hb d_La_law_511 rfl (lv_at hl 3 rfl) ?_
          refine lv_aload_n hx hb d_La_law_512 rfl (lv_at hl 1 rfl) ?_
          refine lv_iload hx hb d_La_law_513 (lv_at hl 5 rfl) ?_
          refine lv_iconst (v := nI 1) hx hb d_La_law_515 (by decide +kernel) ?_
          refine lv_iadd hx hb d_La_law_516 ?_
          refine aw_ti (nI_add (6 * t) 1) ?_
          refine va_sld hx hb hX hbl hbA hS (i := (nI ((6 * t) + 1))) (vp_in_nI (by omega) (by omega)) d_La_law_517 ?_
          refine aw_ti (y := nI j) (by rw [nI_clamp (by omega)]; exact hc0.symm) ?_
          refine lv_aload_n hx hb d_La_law_518 rfl (lv_at hl 1 rfl) ?_
          refine lv_iload hx hb d_La_law_519 (lv_at hl 5 rfl) ?_
          refine lv_iconst (v := nI 2) hx hb d_La_law_521 (by decide +kernel) ?_
          refine lv_iadd hx hb d_La_law_522 ?_
          refine aw_ti (nI_add (6 * t) 2) ?_
          refine va_sld hx hb hX hbl hbA hS (i := (nI ((6 * t) + 2))) (vp_in_nI (by omega) (by omega)) d_La_law_523 ?_
          refine aw_ti (y := s2) (by rw [nI_clamp (by omega)]; exact hs2.symm) ?_
          obtain ⟨_, he217⟩ := zr_M0 hSh
          refine va_calli (va_runV (As := [.int (nI j), .int s2]) (rest := []) ⟨hx, hb, hml, hown, hG⟩ (k_Mo_wordXsV l D g ad N0 zG zO zX zY zA zB zM zI zL zK zN zF zQ j s2 hj (by omega)) (aw_wV 2 hG gw_12_14 gw_12_11 gw_0_10 gw_12_12 gw_12_13 rfl rfl hd_Mo_word ⟨Nat.le_of_ble_eq_true rfl, Nat.le_of_ble_eq_true rfl⟩) (ag_qV (va_recv hK hP rfl he217) hP hD hSh hU hS) rfl rfl hl.1 rfl (lv_room (Nat.le_of_ble_eq_true rfl)) d_La_law_524 ⟨by omega, by omega⟩) hS (fun _ _ h => h) (fun _ h => h) ?_
          clear hP hD hSh hS he217
          intro x218 u8 t8 H locs ht _ ex218 hB _ _ hS
          obtain ⟨L, hP, hD, hSh⟩ := hB
          rw [ht] at hP
          clear ht
          have ex218 := ex218.symm
          refine lv_istore hx hb d_La_law_527 hl (by decide) rfl (fun ls hl => ?_)
          have hl : lv_has ls 8 [(6, .int x218), (5, .int (nI 2)), (0, .ref b), (1, .ref (aw_r ad 0)), (2, .ref (aw_m ad 0)), (3, .ref (aw_o ad)), (4, .int (nI (6 * t)))] := hl
          refine lv_goto (tgt := 853) hx hb d_La_law_529 (by decide) ?_
          refine lv_iinc (k := 6) (v := nI (6 * t + 6)) hx hb d_La_law_853 hl rfl (aw_inc (6 * t) 6 6 (by decide +kernel)) (by decide) rfl (fun ls hl => ?_)
          have hl : lv_has ls 8 [(4, .int (nI (6 * t + 6))), (6, .int x218), (5, .int (nI 2)), (0, .ref b), (1, .ref (aw_r ad 0)), (2, .ref (aw_m ad 0)), (3, .ref (aw_o ad))] := hl
          refine lv_goto (tgt := 23) hx hb d_La_law_856 (by decide) ?_
          have hl := lv_sub hl (l' := [(0, .ref b), (1, .ref (aw_r ad 0)), (2, .ref (aw_m ad 0)), (3, .ref (aw_o ad)), (4, .int (nI (6 * t + 6)))]) [3, 4, 5, 6, 0] rfl
          refine W.widen (k := 85 + (t + 1)) (n := 1246 + 6 * (t + 1)) (by omega) (by omega) ?_
          exact ih (t + 1) zG zO zX zY zA zB zM zI zL zK zN (nI 2) zQ _ _ L ls (by omega) hP hD hSh hR hS (by first | exact hl | simpa [Nat.mul_add] using hl)
    · refine aw_ti (y := nI 7) (by rw [hs3]) ?_
      refine lv_tableIn (tgt := 532) (off := 492) hx hb d_La_law_40 (by decide +kernel) (by decide +kernel) (by decide +kernel) (by decide) ?_
      obtain ⟨p0, hp0⟩ : ∃ z : Int32, z = xs (6 * t + 1) := ⟨_, rfl⟩
      obtain ⟨s2, hs2⟩ : ∃ z : Int32, z = xs (6 * t + 2) := ⟨_, rfl⟩
      rcases aw_rng 64 (by decide) p0 with hc | ⟨k, hk, rfl⟩
      · refine lv_aload_n hx hb d_La_law_532 rfl (lv_at hl 1 rfl) ?_
        refine lv_aload_n hx hb d_La_law_533 rfl (lv_at hl 0 rfl) ?_
        refine lv_iload hx hb d_La_law_534 (lv_at hl 4 rfl) ?_
        refine lv_iconst (v := nI 1) hx hb d_La_law_536 (by decide +kernel) ?_
        refine lv_iadd hx hb d_La_law_537 ?_
        refine aw_ti (nI_add (6 * t) 1) ?_
        refine va_sld hx hb hX hbl hbA hS (i := (nI ((6 * t) + 1))) (vp_in_nI (by omega) (by omega)) d_La_law_538 ?_
        refine aw_ti (y := p0) (by rw [nI_clamp (by omega)]; exact hp0.symm) ?_
        refine lv_aload_n hx hb d_La_law_539 rfl (lv_at hl 0 rfl) ?_
        refine lv_iload hx hb d_La_law_540 (lv_at hl 4 rfl) ?_
        refine lv_iconst (v := nI 2) hx hb d_La_law_542 (by decide +kernel) ?_
        refine lv_iadd hx hb d_La_law_543 ?_
        refine aw_ti (nI_add (6 * t) 2) ?_
        refine va_sld hx hb hX hbl hbA hS (i := (nI ((6 * t) + 2))) (vp_in_nI (by omega) (by omega)) d_La_law_544 ?_
        refine aw_ti (y := s2) (by rw [nI_clamp (by omega)]; exact hs2.symm) ?_
        refine va_calli (vx_runSW (As := [.ref (aw_r ad 0), .int p0, .int s2]) (rest := []) ⟨hx, hb, hml, hown, hG⟩ (k_La_putXV l hst D g ad N0 zG zO zX zY zA zB zM zI zL zK zN zF zQ p0 s2 hc) (aw_wW 3 hG gw_7_25 gw_7_23 gw_0_0 gw_7_24 rfl rfl hd_La_put ⟨Nat.le_of_ble_eq_true rfl, Nat.le_of_ble_eq_true rfl⟩) (ag_qS hP hD hSh hU hS) rfl rfl hl.1 rfl (lv_room (Nat.le_of_ble_eq_true rfl)) d_La_law_545 ⟨by omega, by omega⟩) hS (fun _ _ h => h) (fun _ h => h) ?_
        clear hP hD hSh hS
        intro x219 u8 t8 H locs ht _ ex219 hB _ _ hS
        obtain ⟨L, hP, hD, hSh⟩ := hB
        rw [ht] at hP
        clear ht
        subst ex219
        refine lv_istore hx hb d_La_law_548 hl (by decide) rfl (fun ls hl => ?_)
        have hl : lv_has ls 8 [(5, .int (nI 1)), (0, .ref b), (1, .ref (aw_r ad 0)), (2, .ref (aw_m ad 0)), (3, .ref (aw_o ad)), (4, .int (nI (6 * t)))] := hl
        refine lv_aload_n hx hb d_La_law_550 rfl (lv_at hl 3 rfl) ?_
        refine lv_aload_n hx hb d_La_law_551 rfl (lv_at hl 1 rfl) ?_
        refine lv_iload hx hb d_La_law_552 (lv_at hl 5 rfl) ?_
        refine lv_iconst (v := nI 1) hx hb d_La_law_554 (by decide +kernel) ?_
        refine lv_iadd hx hb d_La_law_555 ?_
        refine aw_ti (nI_add (6 * t) 1) ?_
        refine va_sld hx hb hX hbl hbA hS (i := (nI ((6 * t) + 1))) (vp_in_nI (by omega) (by omega)) d_La_law_556 ?_
        refine aw_ti (y := p0) (by rw [nI_clamp (by omega)]; exact hp0.symm) ?_
        refine lv_aload_n hx hb d_La_law_557 rfl (lv_at hl 1 rfl) ?_
        refine lv_iload hx hb d_La_law_558 (lv_at hl 5 rfl) ?_
        refine lv_iconst (v := nI 2) hx hb d_La_law_560 (by decide +kernel) ?_
        refine lv_iadd hx hb d_La_law_561 ?_
        refine aw_ti (nI_add (6 * t) 2) ?_
        refine va_sld hx hb hX hbl hbA hS (i := (nI ((6 * t) + 2))) (vp_in_nI (by omega) (by omega)) d_La_law_562 ?_
        refine aw_ti (y := s2) (by rw [nI_clamp (by omega)]; exact hs2.symm) ?_
        obtain ⟨_, he220⟩ := zr_M0 hSh
        refine va_callv (va_runV (As := [.int p0, .int s2]) (rest := []) ⟨hx, hb, hml, hown, hG⟩ (k_Mo_putXV l D g ad N0 zG zO zX zY zA zB zM zI zL zK zN zF zQ p0 s2 (aw_bnd 63 (by decide) hc)) (aw_wV 2 hG gw_12_18 gw_12_15 gw_0_10 gw_12_16 gw_12_17 rfl rfl hd_Mo_put ⟨Nat.le_of_ble_eq_true rfl, Nat.le_of_ble_eq_true rfl⟩) (ag_qV (va_recv hK hP rfl he220) hP hD hSh hU hS) rfl rfl hl.1 rfl (lv_room (Nat.le_of_ble_eq_true rfl)) d_La_law_563 ⟨by omega, by omega⟩) hS (fun _ _ h => h) (fun _ h => h) ?_
        clear hP hD hSh hS he220
        intro u8 t8 H locs ht _ _ hB _ _ hS
        obtain ⟨L, hP, hD, hSh⟩ := hB
        rw [ht] at hP
        clear ht
        refine lv_goto (tgt := 853) hx hb d_La_law_566 (by decide) ?_
        refine lv_iinc (k := 5) (v := nI (6 * t + 6)) hx hb d_La_law_853 hl rfl (aw_inc (6 * t) 6 6 (by decide +kernel)) (by decide) rfl (fun ls hl => ?_)
        have hl : lv_has ls 8 [(4, .int (nI (6 * t + 6))), (5, .int (nI 1)), (0, .ref b), (1, .ref (aw_r ad 0)), (2, .ref (aw_m ad 0)), (3, .ref (aw_o ad))] := hl
        refine lv_goto (tgt := 23) hx hb d_La_law_856 (by decide) ?_
        have hl := lv_sub hl (l' := [(0, .ref b), (1, .ref (aw_r ad 0)), (2, .ref (aw_m ad 0)), (3, .ref (aw_o ad)), (4, .int (nI (6 * t + 6)))]) [2, 3, 4, 5, 0] rfl
        refine W.widen (k := 85 + (t + 1)) (n := 1246 + 6 * (t + 1)) (by omega) (by omega) ?_
        exact ih (t + 1) zG zO zX zY zA zB zM zI zL zK zN (nI 1) zQ _ _ L ls (by omega) hP hD hSh hR hS (by first | exact hl | simpa [Nat.mul_add] using hl)
      · refine lv_aload_n hx hb d_La_law_532 rfl (lv_at hl 1 rfl) ?_
        refine lv_aload_n hx hb d_La_law_533 rfl (lv_at hl 0 rfl) ?_
        refine lv_iload hx hb d_La_law_534 (lv_at hl 4 rfl) ?_
        refine lv_iconst (v := nI 1) hx hb d_La_law_536 (by decide +kernel) ?_
        refine lv_iadd hx hb d_La_law_537 ?_
        refine aw_ti (nI_add (6 * t) 1) ?_
        refine va_sld hx hb hX hbl hbA hS (i := (nI ((6 * t) + 1))) (vp_in_nI (by omega) (by omega)) d_La_law_538 ?_
        refine aw_ti (y := nI k) (by rw [nI_clamp (by omega)]; exact hp0.symm) ?_
        refine lv_aload_n hx hb d_La_law_539 rfl (lv_at hl 0 rfl) ?_
        refine lv_iload hx hb d_La_law_540 (lv_at hl 4 rfl) ?_
        refine lv_iconst (v := nI 2) hx hb d_La_law_542 (by decide +kernel) ?_
        refine lv_iadd hx hb d_La_law_543 ?_
        refine aw_ti (nI_add (6 * t) 2) ?_
        refine va_sld hx hb hX hbl hbA hS (i := (nI ((6 * t) + 2))) (vp_in_nI (by omega) (by omega)) d_La_law_544 ?_
        refine aw_ti (y := s2) (by rw [nI_clamp (by omega)]; exact hs2.symm) ?_
        refine va_calli (vx_runSW (As := [.ref (aw_r ad 0), .int (nI k), .int s2]) (rest := []) ⟨hx, hb, hml, hown, hG⟩ (k_La_put1V l hst D g ad N0 zG zO zX zY zA zB zM zI zL zK zN zF zQ k s2 (by omega)) (aw_wW 3 hG gw_7_25 gw_7_23 gw_0_0 gw_7_24 rfl rfl hd_La_put ⟨Nat.le_of_ble_eq_true rfl, Nat.le_of_ble_eq_true rfl⟩) (ag_qS hP hD hSh hU hS) rfl rfl hl.1 rfl (lv_room (Nat.le_of_ble_eq_true rfl)) d_La_law_545 ⟨by omega, by omega⟩) hS (fun _ _ h => h) (fun _ h => h) ?_
        clear hP hD hSh hS
        intro x221 u8 t8 H locs ht _ ex221 hB _ _ hS
        obtain ⟨L, hP, hD, hSh⟩ := hB
        rw [ht] at hP
        clear ht
        subst ex221
        obtain ⟨zB222, ezB222⟩ : ∃ z : Nat → Int32, v_La_put1V_zB zB k s2 = z := ⟨_, rfl⟩
        rw [ezB222] at hSh
        refine lv_istore hx hb d_La_law_548 hl (by decide) rfl (fun ls hl => ?_)
        have hl : lv_has ls 8 [(5, .int (nI 0)), (0, .ref b), (1, .ref (aw_r ad 0)), (2, .ref (aw_m ad 0)), (3, .ref (aw_o ad)), (4, .int (nI (6 * t)))] := hl
        refine lv_aload_n hx hb d_La_law_550 rfl (lv_at hl 3 rfl) ?_
        refine lv_aload_n hx hb d_La_law_551 rfl (lv_at hl 1 rfl) ?_
        refine lv_iload hx hb d_La_law_552 (lv_at hl 5 rfl) ?_
        refine lv_iconst (v := nI 1) hx hb d_La_law_554 (by decide +kernel) ?_
        refine lv_iadd hx hb d_La_law_555 ?_
        refine aw_ti (nI_add (6 * t) 1) ?_
        refine va_sld hx hb hX hbl hbA hS (i := (nI ((6 * t) + 1))) (vp_in_nI (by omega) (by omega)) d_La_law_556 ?_
        refine aw_ti (y := nI k) (by rw [nI_clamp (by omega)]; exact hp0.symm) ?_
        refine lv_aload_n hx hb d_La_law_557 rfl (lv_at hl 1 rfl) ?_
        refine lv_iload hx hb d_La_law_558 (lv_at hl 5 rfl) ?_
        refine lv_iconst (v := nI 2) hx hb d_La_law_560 (by decide +kernel) ?_
        refine lv_iadd hx hb d_La_law_561 ?_
        refine aw_ti (nI_add (6 * t) 2) ?_
        refine va_sld hx hb hX hbl hbA hS (i := (nI ((6 * t) + 2))) (vp_in_nI (by omega) (by omega)) d_La_law_562 ?_
        refine aw_ti (y := s2) (by rw [nI_clamp (by omega)]; exact hs2.symm) ?_
        obtain ⟨_, he223⟩ := zr_M0 hSh
        refine va_callv (va_runV (As := [.int (nI k), .int s2]) (rest := []) ⟨hx, hb, hml, hown, hG⟩ (k_Mo_put1V l D g ad N0 zG zO zX zY zA zB222 zM zI zL zK zN zF zQ k s2 (by omega)) (aw_wV 2 hG gw_12_18 gw_12_15 gw_0_10 gw_12_16 gw_12_17 rfl rfl hd_Mo_put ⟨Nat.le_of_ble_eq_true rfl, Nat.le_of_ble_eq_true rfl⟩) (ag_qV (va_recv hK hP rfl he223) hP hD hSh hU hS) rfl rfl hl.1 rfl (lv_room (Nat.le_of_ble_eq_true rfl)) d_La_law_563 ⟨by omega, by omega⟩) hS (fun _ _ h => h) (fun _ h => h) ?_
        clear hP hD hSh hS he223
        intro u8 t8 H locs ht _ _ hB _ _ hS
        obtain ⟨L, hP, hD, hSh⟩ := hB
        rw [ht] at hP
        clear ht
        obtain ⟨zI224, ezI224⟩ : ∃ z : Nat → Nat → Int32, v_Mo_put1V_zI zI k s2 = z := ⟨_, rfl⟩
        rw [ezI224] at hSh
        refine lv_goto (tgt := 853) hx hb d_La_law_566 (by decide) ?_
        refine lv_iinc (k := 5) (v := nI (6 * t + 6)) hx hb d_La_law_853 hl rfl (aw_inc (6 * t) 6 6 (by decide +kernel)) (by decide) rfl (fun ls hl => ?_)
        have hl : lv_has ls 8 [(4, .int (nI (6 * t + 6))), (5, .int (nI 0)), (0, .ref b), (1, .ref (aw_r ad 0)), (2, .ref (aw_m ad 0)), (3, .ref (aw_o ad))] := hl
        refine lv_goto (tgt := 23) hx hb d_La_law_856 (by decide) ?_
        have hl := lv_sub hl (l' := [(0, .ref b), (1, .ref (aw_r ad 0)), (2, .ref (aw_m ad 0)), (3, .ref (aw_o ad)), (4, .int (nI (6 * t + 6)))]) [2, 3, 4, 5, 0] rfl
        refine W.widen (k := 85 + (t + 1)) (n := 1246 + 6 * (t + 1)) (by omega) (by omega) ?_
        have hR : az_R zG zO zX zY zA zB222 zM zI224 zL := by
          subst ezI224 ezB222
          exact r_put1 hR hk
        exact ih (t + 1) zG zO zX zY zA zB222 zM zI224 zL zK zN (nI 0) zQ _ _ L ls (by omega) hP hD hSh hR hS (by first | exact hl | simpa [Nat.mul_add] using hl)
    · refine aw_ti (y := nI 8) (by rw [hs3]) ?_
      refine lv_tableIn (tgt := 569) (off := 529) hx hb d_La_law_40 (by decide +kernel) (by decide +kernel) (by decide +kernel) (by decide) ?_
      obtain ⟨p0, hp0⟩ : ∃ z : Int32, z = xs (6 * t + 1) := ⟨_, rfl⟩
      rcases aw_rng 64 (by decide) p0 with hc | ⟨k, hk, rfl⟩
      · refine lv_aload_n hx hb d_La_law_569 rfl (lv_at hl 1 rfl) ?_
        refine lv_aload_n hx hb d_La_law_570 rfl (lv_at hl 0 rfl) ?_
        refine lv_iload hx hb d_La_law_571 (lv_at hl 4 rfl) ?_
        refine lv_iconst (v := nI 1) hx hb d_La_law_573 (by decide +kernel) ?_
        refine lv_iadd hx hb d_La_law_574 ?_
        refine aw_ti (nI_add (6 * t) 1) ?_
        refine va_sld hx hb hX hbl hbA hS (i := (nI ((6 * t) + 1))) (vp_in_nI (by omega) (by omega)) d_La_law_575 ?_
        refine aw_ti (y := p0) (by rw [nI_clamp (by omega)]; exact hp0.symm) ?_
        refine lv_aload_n hx hb d_La_law_576 rfl (lv_at hl 3 rfl) ?_
        refine va_calli (vx_runSW (As := [.ref (aw_r ad 0), .int p0, .ref (aw_o ad)]) (rest := []) ⟨hx, hb, hml, hown, hG⟩ (k_La_getXV l hst D g ad N0 zG zO zX zY zA zB zM zI zL zK zN zF zQ p0 hc) (aw_wW 3 hG gw_7_35 gw_7_33 gw_0_0 gw_7_34 rfl rfl hd_La_get ⟨Nat.le_of_ble_eq_true rfl, Nat.le_of_ble_eq_true rfl⟩) (ag_qS hP hD hSh hU hS) rfl rfl hl.1 rfl (lv_room (Nat.le_of_ble_eq_true rfl)) d_La_law_577 ⟨by omega, by omega⟩) hS (fun _ _ h => h) (fun _ h => h) ?_
        clear hP hD hSh hS
        intro x225 u8 t8 H locs ht _ ex225 hB _ _ hS
        obtain ⟨L, hP, hD, hSh⟩ := hB
        rw [ht] at hP
        clear ht
        subst ex225
        refine lv_istore hx hb d_La_law_580 hl (by decide) rfl (fun ls hl => ?_)
        have hl : lv_has ls 8 [(5, .int (nI 1)), (0, .ref b), (1, .ref (aw_r ad 0)), (2, .ref (aw_m ad 0)), (3, .ref (aw_o ad)), (4, .int (nI (6 * t)))] := hl
        refine lv_aload_n hx hb d_La_law_582 rfl (lv_at hl 3 rfl) ?_
        refine lv_aload_n hx hb d_La_law_583 rfl (lv_at hl 1 rfl) ?_
        refine lv_iload hx hb d_La_law_584 (lv_at hl 5 rfl) ?_
        refine lv_iconst (v := nI 1) hx hb d_La_law_586 (by decide +kernel) ?_
        refine lv_iadd hx hb d_La_law_587 ?_
        refine aw_ti (nI_add (6 * t) 1) ?_
        refine va_sld hx hb hX hbl hbA hS (i := (nI ((6 * t) + 1))) (vp_in_nI (by omega) (by omega)) d_La_law_588 ?_
        refine aw_ti (y := p0) (by rw [nI_clamp (by omega)]; exact hp0.symm) ?_
        obtain ⟨_, he226⟩ := zr_M0 hSh
        refine va_calli (va_runV (As := [.int p0]) (rest := []) ⟨hx, hb, hml, hown, hG⟩ (k_Mo_getXV l D g ad N0 zG zO zX zY zA zB zM zI zL zK zN zF zQ p0 (aw_bnd 63 (by decide) hc)) (aw_wV 1 hG gw_12_22 gw_12_19 gw_0_10 gw_12_20 gw_12_21 rfl rfl hd_Mo_get ⟨Nat.le_of_ble_eq_true rfl, Nat.le_of_ble_eq_true rfl⟩) (ag_qV (va_recv hK hP rfl he226) hP hD hSh hU hS) rfl rfl hl.1 rfl (lv_room (Nat.le_of_ble_eq_true rfl)) d_La_law_589 ⟨by omega, by omega⟩) hS (fun _ _ h => h) (fun _ h => h) ?_
        clear hP hD hSh hS he226
        intro x227 u8 t8 H locs ht _ ex227 hB _ _ hS
        obtain ⟨L, hP, hD, hSh⟩ := hB
        rw [ht] at hP
        clear ht
        have ex227 := ex227.symm
        refine lv_istore hx hb d_La_law_592 hl (by decide) rfl (fun ls hl => ?_)
        have hl : lv_has ls 8 [(6, .int x227), (5, .int (nI 1)), (0, .ref b), (1, .ref (aw_r ad 0)), (2, .ref (aw_m ad 0)), (3, .ref (aw_o ad)), (4, .int (nI (6 * t)))] := hl
        refine lv_goto (tgt := 853) hx hb d_La_law_594 (by decide) ?_
        refine lv_iinc (k := 6) (v := nI (6 * t + 6)) hx hb d_La_law_853 hl rfl (aw_inc (6 * t) 6 6 (by decide +kernel)) (by decide) rfl (fun ls hl => ?_)
        have hl : lv_has ls 8 [(4, .int (nI (6 * t + 6))), (6, .int x227), (5, .int (nI 1)), (0, .ref b), (1, .ref (aw_r ad 0)), (2, .ref (aw_m ad 0)), (3, .ref (aw_o ad))] := hl
        refine lv_goto (tgt := 23) hx hb d_La_law_856 (by decide) ?_
        have hl := lv_sub hl (l' := [(0, .ref b), (1, .ref (aw_r ad 0)), (2, .ref (aw_m ad 0)), (3, .ref (aw_o ad)), (4, .int (nI (6 * t + 6)))]) [3, 4, 5, 6, 0] rfl
        refine W.widen (k := 85 + (t + 1)) (n := 1246 + 6 * (t + 1)) (by omega) (by omega) ?_
        exact ih (t + 1) zG zO zX zY zA zB zM zI zL zK zN (nI 1) zQ _ _ L ls (by omega) hP hD hSh hR hS (by first | exact hl | simpa [Nat.mul_add] using hl)
      · refine lv_aload_n hx hb d_La_law_569 rfl (lv_at hl 1 rfl) ?_
        refine lv_aload_n hx hb d_La_law_570 rfl (lv_at hl 0 rfl) ?_
        refine lv_iload hx hb d_La_law_571 (lv_at hl 4 rfl) ?_
        refine lv_iconst (v := nI 1) hx hb d_La_law_573 (by decide +kernel) ?_
        refine lv_iadd hx hb d_La_law_574 ?_
        refine aw_ti (nI_add (6 * t) 1) ?_
        refine va_sld hx hb hX hbl hbA hS (i := (nI ((6 * t) + 1))) (vp_in_nI (by omega) (by omega)) d_La_law_575 ?_
        refine aw_ti (y := nI k) (by rw [nI_clamp (by omega)]; exact hp0.symm) ?_
        refine lv_aload_n hx hb d_La_law_576 rfl (lv_at hl 3 rfl) ?_
        refine va_calli (vx_runSW (As := [.ref (aw_r ad 0), .int (nI k), .ref (aw_o ad)]) (rest := []) ⟨hx, hb, hml, hown, hG⟩ (k_La_get1V l hst D g ad N0 zG zO zX zY zA zB zM zI zL zK zN zF zQ k (by omega)) (aw_wW 3 hG gw_7_35 gw_7_33 gw_0_0 gw_7_34 rfl rfl hd_La_get ⟨Nat.le_of_ble_eq_true rfl, Nat.le_of_ble_eq_true rfl⟩) (ag_qS hP hD hSh hU hS) rfl rfl hl.1 rfl (lv_room (Nat.le_of_ble_eq_true rfl)) d_La_law_577 ⟨by omega, by omega⟩) hS (fun _ _ h => h) (fun _ h => h) ?_
        clear hP hD hSh hS
        intro x228 u8 t8 H locs ht _ ex228 hB _ _ hS
        obtain ⟨L, hP, hD, hSh⟩ := hB
        rw [ht] at hP
        clear ht
        subst ex228
        obtain ⟨zQ229, ezQ229⟩ : ∃ z : Int64, v_La_get1V_zQ zB k = z := ⟨_, rfl⟩
        rw [ezQ229] at hSh
        refine lv_istore hx hb d_La_law_580 hl (by decide) rfl (fun ls hl => ?_)
        have hl : lv_has ls 8 [(5, .int (nI 0)), (0, .ref b), (1, .ref (aw_r ad 0)), (2, .ref (aw_m ad 0)), (3, .ref (aw_o ad)), (4, .int (nI (6 * t)))] := hl
        refine lv_aload_n hx hb d_La_law_582 rfl (lv_at hl 3 rfl) ?_
        refine lv_aload_n hx hb d_La_law_583 rfl (lv_at hl 1 rfl) ?_
        refine lv_iload hx hb d_La_law_584 (lv_at hl 5 rfl) ?_
        refine lv_iconst (v := nI 1) hx hb d_La_law_586 (by decide +kernel) ?_
        refine lv_iadd hx hb d_La_law_587 ?_
        refine aw_ti (nI_add (6 * t) 1) ?_
        refine va_sld hx hb hX hbl hbA hS (i := (nI ((6 * t) + 1))) (vp_in_nI (by omega) (by omega)) d_La_law_588 ?_
        refine aw_ti (y := nI k) (by rw [nI_clamp (by omega)]; exact hp0.symm) ?_
        obtain ⟨_, he230⟩ := zr_M0 hSh
        refine va_calli (va_runV (As := [.int (nI k)]) (rest := []) ⟨hx, hb, hml, hown, hG⟩ (k_Mo_get1V l D g ad N0 zG zO zX zY zA zB zM zI zL zK zN zF zQ229 k (by omega)) (aw_wV 1 hG gw_12_22 gw_12_19 gw_0_10 gw_12_20 gw_12_21 rfl rfl hd_Mo_get ⟨Nat.le_of_ble_eq_true rfl, Nat.le_of_ble_eq_true rfl⟩) (ag_qV (va_recv hK hP rfl he230) hP hD hSh hU hS) rfl rfl hl.1 rfl (lv_room (Nat.le_of_ble_eq_true rfl)) d_La_law_589 ⟨by omega, by omega⟩) hS (fun _ _ h => h) (fun _ h => h) ?_
        clear hP hD hSh hS he230
        intro x231 u8 t8 H locs ht _ ex231 hB _ _ hS
        obtain ⟨L, hP, hD, hSh⟩ := hB
        rw [ht] at hP
        clear ht
        have ex231 := ex231.symm
        refine lv_istore hx hb d_La_law_592 hl (by decide) rfl (fun ls hl => ?_)
        have hl : lv_has ls 8 [(6, .int x231), (5, .int (nI 0)), (0, .ref b), (1, .ref (aw_r ad 0)), (2, .ref (aw_m ad 0)), (3, .ref (aw_o ad)), (4, .int (nI (6 * t)))] := hl
        refine lv_goto (tgt := 853) hx hb d_La_law_594 (by decide) ?_
        refine lv_iinc (k := 6) (v := nI (6 * t + 6)) hx hb d_La_law_853 hl rfl (aw_inc (6 * t) 6 6 (by decide +kernel)) (by decide) rfl (fun ls hl => ?_)
        have hl : lv_has ls 8 [(4, .int (nI (6 * t + 6))), (6, .int x231), (5, .int (nI 0)), (0, .ref b), (1, .ref (aw_r ad 0)), (2, .ref (aw_m ad 0)), (3, .ref (aw_o ad))] := hl
        refine lv_goto (tgt := 23) hx hb d_La_law_856 (by decide) ?_
        have hl := lv_sub hl (l' := [(0, .ref b), (1, .ref (aw_r ad 0)), (2, .ref (aw_m ad 0)), (3, .ref (aw_o ad)), (4, .int (nI (6 * t + 6)))]) [3, 4, 5, 6, 0] rfl
        refine W.widen (k := 85 + (t + 1)) (n := 1246 + 6 * (t + 1)) (by omega) (by omega) ?_
        exact ih (t + 1) zG zO zX zY zA zB zM zI zL zK zN (nI 0) zQ229 _ _ L ls (by omega) hP hD hSh hR hS (by first | exact hl | simpa [Nat.mul_add] using hl)
    · refine aw_ti (y := nI 9) (by rw [hs3]) ?_
      refine lv_tableIn (tgt := 597) (off := 557) hx hb d_La_law_40 (by decide +kernel) (by decide +kernel) (by decide +kernel) (by decide) ?_
      obtain ⟨c0, hc0⟩ : ∃ z : Int32, z = xs (6 * t + 1) := ⟨_, rfl⟩
      obtain ⟨s2, hs2⟩ : ∃ z : Int32, z = xs (6 * t + 2) := ⟨_, rfl⟩
      obtain ⟨fr, hfr⟩ : ∃ z : Int32, z = xs (6 * t + 3) := ⟨_, rfl⟩
      obtain ⟨m0, hm0⟩ : ∃ z : Int32, z = xs (6 * t + 4) := ⟨_, rfl⟩
      rcases aw_rng 4 (by decide) c0 with hc | ⟨j, hj, rfl⟩
      · refine lv_aload_n hx hb d_La_law_597 rfl (lv_at hl 1 rfl) ?_
        refine lv_aload_n hx hb d_La_law_598 rfl (lv_at hl 0 rfl) ?_
        refine lv_iload hx hb d_La_law_599 (lv_at hl 4 rfl) ?_
        refine lv_iconst (v := nI 1) hx hb d_La_law_601 (by decide +kernel) ?_
        refine lv_iadd hx hb d_La_law_602 ?_
        refine aw_ti (nI_add (6 * t) 1) ?_
        refine va_sld hx hb hX hbl hbA hS (i := (nI ((6 * t) + 1))) (vp_in_nI (by omega) (by omega)) d_La_law_603 ?_
        refine aw_ti (y := c0) (by rw [nI_clamp (by omega)]; exact hc0.symm) ?_
        refine lv_aload_n hx hb d_La_law_604 rfl (lv_at hl 0 rfl) ?_
        refine lv_iload hx hb d_La_law_605 (lv_at hl 4 rfl) ?_
        refine lv_iconst (v := nI 2) hx hb d_La_law_607 (by decide +kernel) ?_
        refine lv_iadd hx hb d_La_law_608 ?_
        refine aw_ti (nI_add (6 * t) 2) ?_
        refine va_sld hx hb hX hbl hbA hS (i := (nI ((6 * t) + 2))) (vp_in_nI (by omega) (by omega)) d_La_law_609 ?_
        refine aw_ti (y := s2) (by rw [nI_clamp (by omega)]; exact hs2.symm) ?_
        have hj232 : ∀ x233 : Int32, (if s2 = 0 then nI 0 else nI 1) = x233 → W p l e room_1 s m #[Value.ref b] below meth c H locs (85 + t) (1246 + 6 * t) (lw_Z below #[Value.ref b] s) (F0 m 618 ls [.int x233, .int c0, .ref (aw_r ad 0)]) := by
          intro x233 ebx233
          refine lv_aload_n hx hb d_La_law_618 rfl (lv_at hl 0 rfl) ?_
          refine lv_iload hx hb d_La_law_619 (lv_at hl 4 rfl) ?_
          refine lv_iconst (v := nI 3) hx hb d_La_law_621 (by decide +kernel) ?_
          refine lv_iadd hx hb d_La_law_622 ?_
          refine aw_ti (nI_add (6 * t) 3) ?_
          refine va_sld hx hb hX hbl hbA hS (i := (nI ((6 * t) + 3))) (vp_in_nI (by omega) (by omega)) d_La_law_623 ?_
          refine aw_ti (y := fr) (by rw [nI_clamp (by omega)]; exact hfr.symm) ?_
          refine lv_aload_n hx hb d_La_law_624 rfl (lv_at hl 0 rfl) ?_
          refine lv_iload hx hb d_La_law_625 (lv_at hl 4 rfl) ?_
          refine lv_iconst (v := nI 4) hx hb d_La_law_627 (by decide +kernel) ?_
          refine lv_iadd hx hb d_La_law_628 ?_
          refine aw_ti (nI_add (6 * t) 4) ?_
          refine va_sld hx hb hX hbl hbA hS (i := (nI ((6 * t) + 4))) (vp_in_nI (by omega) (by omega)) d_La_law_629 ?_
          refine aw_ti (y := m0) (by rw [nI_clamp (by omega)]; exact hm0.symm) ?_
          refine lv_aload_n hx hb d_La_law_630 rfl (lv_at hl 3 rfl) ?_
          refine va_calli (vx_runSW (As := [.ref (aw_r ad 0), .int c0, .int x233, .int fr, .int m0, .ref (aw_o ad)]) (rest := []) ⟨hx, hb, hml, hown, hG⟩ (k_La_feedXcV l hst D g ad N0 zG zO zX zY zA zB zM zI zL zK zN zF zQ c0 x233 fr m0 hc) (aw_wW 6 hG gw_7_42 gw_7_40 gw_0_0 gw_7_41 rfl rfl hd_La_feed ⟨Nat.le_of_ble_eq_true rfl, Nat.le_of_ble_eq_true rfl⟩) (ag_qS hP hD hSh hU hS) rfl rfl hl.1 rfl (lv_room (Nat.le_of_ble_eq_true rfl)) d_La_law_631 ⟨by omega, by omega⟩) hS (fun _ _ h => h) (fun _ h => h) ?_
          clear hP hD hSh hS
          intro x234 u8 t8 H locs ht _ ex234 hB _ _ hS
          obtain ⟨L, hP, hD, hSh⟩ := hB
          rw [ht] at hP
          clear ht
          subst ex234
          refine lv_istore hx hb d_La_law_634 hl (by decide) rfl (fun ls hl => ?_)
          have hl : lv_has ls 8 [(5, .int (nI 1)), (0, .ref b), (1, .ref (aw_r ad 0)), (2, .ref (aw_m ad 0)), (3, .ref (aw_o ad)), (4, .int (nI (6 * t)))] := hl
          refine lv_aload_n hx hb d_La_law_636 rfl (lv_at hl 3 rfl) ?_
          refine lv_aload_n hx hb d_La_law_637 rfl (lv_at hl 1 rfl) ?_
          refine lv_iload hx hb d_La_law_638 (lv_at hl 5 rfl) ?_
          refine lv_iconst (v := nI 1) hx hb d_La_law_640 (by decide +kernel) ?_
          refine lv_iadd hx hb d_La_law_641 ?_
          refine aw_ti (nI_add (6 * t) 1) ?_
          refine va_sld hx hb hX hbl hbA hS (i := (nI ((6 * t) + 1))) (vp_in_nI (by omega) (by omega)) d_La_law_642 ?_
          refine aw_ti (y := c0) (by rw [nI_clamp (by omega)]; exact hc0.symm) ?_
          refine lv_aload_n hx hb d_La_law_643 rfl (lv_at hl 1 rfl) ?_
          refine lv_iload hx hb d_La_law_644 (lv_at hl 5 rfl) ?_
          refine lv_iconst (v := nI 2) hx hb d_La_law_646 (by decide +kernel) ?_
          refine lv_iadd hx hb d_La_law_647 ?_
          refine aw_ti (nI_add (6 * t) 2) ?_
          refine va_sld hx hb hX hbl hbA hS (i := (nI ((6 * t) + 2))) (vp_in_nI (by omega) (by omega)) d_La_law_648 ?_
          refine aw_ti (y := s2) (by rw [nI_clamp (by omega)]; exact hs2.symm) ?_
          have hj235 : ∀ x236 : Int32, (if s2 = 0 then nI 0 else nI 1) = x236 → W p l e room_1 s m #[Value.ref b] below meth c H locs ((85 + t) + 1) ((1246 + 6 * t) + 6) (lw_Z below #[Value.ref b] s) (F0 m 657 ls [.int x236, .int c0, .ref (aw_m ad 0)]) := by
            intro x236 ebx236
            refine lv_aload_n hx hb d_La_law_657 rfl (lv_at hl 1 rfl) ?_
            refine lv_iload hx hb d_La_law_658 (lv_at hl 5 rfl) ?_
            refine lv_iconst (v := nI 3) hx hb d_La_law_660 (by decide +kernel) ?_
            refine lv_iadd hx hb d_La_law_661 ?_
            refine aw_ti (nI_add (6 * t) 3) ?_
            refine va_sld hx hb hX hbl hbA hS (i := (nI ((6 * t) + 3))) (vp_in_nI (by omega) (by omega)) d_La_law_662 ?_
            refine aw_ti (y := fr) (by rw [nI_clamp (by omega)]; exact hfr.symm) ?_
            refine lv_aload_n hx hb d_La_law_663 rfl (lv_at hl 1 rfl) ?_
            refine lv_iload hx hb d_La_law_664 (lv_at hl 5 rfl) ?_
            refine lv_iconst (v := nI 4) hx hb d_La_law_666 (by decide +kernel) ?_
            refine lv_iadd hx hb d_La_law_667 ?_
            refine aw_ti (nI_add (6 * t) 4) ?_
            refine va_sld hx hb hX hbl hbA hS (i := (nI ((6 * t) + 4))) (vp_in_nI (by omega) (by omega)) d_La_law_668 ?_
            refine aw_ti (y := m0) (by rw [nI_clamp (by omega)]; exact hm0.symm) ?_
            obtain ⟨_, he237⟩ := zr_M0 hSh
            refine va_calli (va_runV (As := [.int c0, .int x236, .int fr, .int m0]) (rest := []) ⟨hx, hb, hml, hown, hG⟩ (k_Mo_feedXcV l D g ad N0 zG zO zX zY zA zB zM zI zL zK zN zF zQ c0 x236 fr m0 hc) (aw_wV 4 hG gw_12_26 gw_12_23 gw_0_10 gw_12_24 gw_12_25 rfl rfl hd_Mo_feed ⟨Nat.le_of_ble_eq_true rfl, Nat.le_of_ble_eq_true rfl⟩) (ag_qV (va_recv hK hP rfl he237) hP hD hSh hU hS) rfl rfl hl.1 rfl (lv_room (Nat.le_of_ble_eq_true rfl)) d_La_law_669 ⟨by omega, by omega⟩) hS (fun _ _ h => h) (fun _ h => h) ?_
            clear hP hD hSh hS he237
            intro x238 u8 t8 H locs ht _ ex238 hB _ _ hS
            obtain ⟨L, hP, hD, hSh⟩ := hB
            rw [ht] at hP
            clear ht
            have ex238 := ex238.symm
            refine lv_istore hx hb d_La_law_672 hl (by decide) rfl (fun ls hl => ?_)
            have hl : lv_has ls 8 [(6, .int x238), (5, .int (nI 1)), (0, .ref b), (1, .ref (aw_r ad 0)), (2, .ref (aw_m ad 0)), (3, .ref (aw_o ad)), (4, .int (nI (6 * t)))] := hl
            refine lv_goto (tgt := 853) hx hb d_La_law_674 (by decide) ?_
            refine lv_iinc (k := 6) (v := nI (6 * t + 6)) hx hb d_La_law_853 hl rfl (aw_inc (6 * t) 6 6 (by decide +kernel)) (by decide) rfl (fun ls hl => ?_)
            have hl : lv_has ls 8 [(4, .int (nI (6 * t + 6))), (6, .int x238), (5, .int (nI 1)), (0, .ref b), (1, .ref (aw_r ad 0)), (2, .ref (aw_m ad 0)), (3, .ref (aw_o ad))] := hl
            refine lv_goto (tgt := 23) hx hb d_La_law_856 (by decide) ?_
            have hl := lv_sub hl (l' := [(0, .ref b), (1, .ref (aw_r ad 0)), (2, .ref (aw_m ad 0)), (3, .ref (aw_o ad)), (4, .int (nI (6 * t + 6)))]) [3, 4, 5, 6, 0] rfl
            refine W.widen (k := 85 + (t + 1)) (n := 1246 + 6 * (t + 1)) (by omega) (by omega) ?_
            exact ih (t + 1) zG zO zX zY zA zB zM zI zL zK zN (nI 1) zQ _ _ L ls (by omega) hP hD hSh hR hS (by first | exact hl | simpa [Nat.mul_add] using hl)
          refine lv_if_eq (tgt := 656) hx hb d_La_law_649 (by decide) (fun h9 => ?_) (fun h9 => ?_)
          · refine lv_iconst (v := nI 0) hx hb d_La_law_656 (by decide +kernel) ?_
            exact hj235 _ (if_pos h9)
          · refine lv_iconst (v := nI 1) hx hb d_La_law_652 (by decide +kernel) ?_
            refine lv_goto (tgt := 657) hx hb d_La_law_653 (by decide) ?_
            exact hj235 _ (if_neg h9)
        refine lv_if_eq (tgt := 617) hx hb d_La_law_610 (by decide) (fun h9 => ?_) (fun h9 => ?_)
        · refine lv_iconst (v := nI 0) hx hb d_La_law_617 (by decide +kernel) ?_
          exact hj232 _ (if_pos h9)
        · refine lv_iconst (v := nI 1) hx hb d_La_law_613 (by decide +kernel) ?_
          refine lv_goto (tgt := 618) hx hb d_La_law_614 (by decide) ?_
          exact hj232 _ (if_neg h9)
      · have hgj := hSh.2.2.2.2.1 j hj
        have hq1 : (zM j).1 = (zG j).1 := by rw [hR.1 j hj]
        have hq2 : (zM j).2 = (zG j).2 := by rw [hR.1 j hj]
        rcases aw_buf fr m0 with hi | rfl | ⟨k, mm, rfl, rfl, h0, hk⟩
        · have hi2 := aw_bp hi
          refine lv_aload_n hx hb d_La_law_597 rfl (lv_at hl 1 rfl) ?_
          refine lv_aload_n hx hb d_La_law_598 rfl (lv_at hl 0 rfl) ?_
          refine lv_iload hx hb d_La_law_599 (lv_at hl 4 rfl) ?_
          refine lv_iconst (v := nI 1) hx hb d_La_law_601 (by decide +kernel) ?_
          refine lv_iadd hx hb d_La_law_602 ?_
          refine aw_ti (nI_add (6 * t) 1) ?_
          refine va_sld hx hb hX hbl hbA hS (i := (nI ((6 * t) + 1))) (vp_in_nI (by omega) (by omega)) d_La_law_603 ?_
          refine aw_ti (y := nI j) (by rw [nI_clamp (by omega)]; exact hc0.symm) ?_
          refine lv_aload_n hx hb d_La_law_604 rfl (lv_at hl 0 rfl) ?_
          refine lv_iload hx hb d_La_law_605 (lv_at hl 4 rfl) ?_
          refine lv_iconst (v := nI 2) hx hb d_La_law_607 (by decide +kernel) ?_
          refine lv_iadd hx hb d_La_law_608 ?_
          refine aw_ti (nI_add (6 * t) 2) ?_
          refine va_sld hx hb hX hbl hbA hS (i := (nI ((6 * t) + 2))) (vp_in_nI (by omega) (by omega)) d_La_law_609 ?_
          refine aw_ti (y := s2) (by rw [nI_clamp (by omega)]; exact hs2.symm) ?_
          have hj239 : ∀ x240 : Int32, (if s2 = 0 then nI 0 else nI 1) = x240 → W p l e room_1 s m #[Value.ref b] below meth c H locs (85 + t) (1246 + 6 * t) (lw_Z below #[Value.ref b] s) (F0 m 618 ls [.int x240, .int (nI j), .ref (aw_r ad 0)]) := by
            intro x240 ebx240
            refine lv_aload_n hx hb d_La_law_618 rfl (lv_at hl 0 rfl) ?_
            refine lv_iload hx hb d_La_law_619 (lv_at hl 4 rfl) ?_
            refine lv_iconst (v := nI 3) hx hb d_La_law_621 (by decide +kernel) ?_
            refine lv_iadd hx hb d_La_law_622 ?_
            refine aw_ti (nI_add (6 * t) 3) ?_
            refine va_sld hx hb hX hbl hbA hS (i := (nI ((6 * t) + 3))) (vp_in_nI (by omega) (by omega)) d_La_law_623 ?_
            refine aw_ti (y := fr) (by rw [nI_clamp (by omega)]; exact hfr.symm) ?_
            refine lv_aload_n hx hb d_La_law_624 rfl (lv_at hl 0 rfl) ?_
            refine lv_iload hx hb d_La_law_625 (lv_at hl 4 rfl) ?_
            refine lv_iconst (v := nI 4) hx hb d_La_law_627 (by decide +kernel) ?_
            refine lv_iadd hx hb d_La_law_628 ?_
            refine aw_ti (nI_add (6 * t) 4) ?_
            refine va_sld hx hb hX hbl hbA hS (i := (nI ((6 * t) + 4))) (vp_in_nI (by omega) (by omega)) d_La_law_629 ?_
            refine aw_ti (y := m0) (by rw [nI_clamp (by omega)]; exact hm0.symm) ?_
            refine lv_aload_n hx hb d_La_law_630 rfl (lv_at hl 3 rfl) ?_
            refine va_calli (vx_runSW (As := [.ref (aw_r ad 0), .int (nI j), .int x240, .int fr, .int m0, .ref (aw_o ad)]) (rest := []) ⟨hx, hb, hml, hown, hG⟩ (k_La_feedXbV l hst D g ad N0 zG zO zX zY zA zB zM zI zL zK zN zF zQ j x240 fr m0 hj hi) (aw_wW 6 hG gw_7_42 gw_7_40 gw_0_0 gw_7_41 rfl rfl hd_La_feed ⟨Nat.le_of_ble_eq_true rfl, Nat.le_of_ble_eq_true rfl⟩) (ag_qS hP hD hSh hU hS) rfl rfl hl.1 rfl (lv_room (Nat.le_of_ble_eq_true rfl)) d_La_law_631 ⟨by omega, by omega⟩) hS (fun _ _ h => h) (fun _ h => h) ?_
            clear hP hD hSh hS
            intro x241 u8 t8 H locs ht _ ex241 hB _ _ hS
            obtain ⟨L, hP, hD, hSh⟩ := hB
            rw [ht] at hP
            clear ht
            subst ex241
            refine lv_istore hx hb d_La_law_634 hl (by decide) rfl (fun ls hl => ?_)
            have hl : lv_has ls 8 [(5, .int (nI 1)), (0, .ref b), (1, .ref (aw_r ad 0)), (2, .ref (aw_m ad 0)), (3, .ref (aw_o ad)), (4, .int (nI (6 * t)))] := hl
            refine lv_aload_n hx hb d_La_law_636 rfl (lv_at hl 3 rfl) ?_
            refine lv_aload_n hx hb d_La_law_637 rfl (lv_at hl 1 rfl) ?_
            refine lv_iload hx hb d_La_law_638 (lv_at hl 5 rfl) ?_
            refine lv_iconst (v := nI 1) hx hb d_La_law_640 (by decide +kernel) ?_
            refine lv_iadd hx hb d_La_law_641 ?_
            refine aw_ti (nI_add (6 * t) 1) ?_
            refine va_sld hx hb hX hbl hbA hS (i := (nI ((6 * t) + 1))) (vp_in_nI (by omega) (by omega)) d_La_law_642 ?_
            refine aw_ti (y := nI j) (by rw [nI_clamp (by omega)]; exact hc0.symm) ?_
            refine lv_aload_n hx hb d_La_law_643 rfl (lv_at hl 1 rfl) ?_
            refine lv_iload hx hb d_La_law_644 (lv_at hl 5 rfl) ?_
            refine lv_iconst (v := nI 2) hx hb d_La_law_646 (by decide +kernel) ?_
            refine lv_iadd hx hb d_La_law_647 ?_
            refine aw_ti (nI_add (6 * t) 2) ?_
            refine va_sld hx hb hX hbl hbA hS (i := (nI ((6 * t) + 2))) (vp_in_nI (by omega) (by omega)) d_La_law_648 ?_
            refine aw_ti (y := s2) (by rw [nI_clamp (by omega)]; exact hs2.symm) ?_
            have hj242 : ∀ x243 : Int32, (if s2 = 0 then nI 0 else nI 1) = x243 → W p l e room_1 s m #[Value.ref b] below meth c H locs ((85 + t) + 1) ((1246 + 6 * t) + 6) (lw_Z below #[Value.ref b] s) (F0 m 657 ls [.int x243, .int (nI j), .ref (aw_m ad 0)]) := by
              intro x243 ebx243
              refine lv_aload_n hx hb d_La_law_657 rfl (lv_at hl 1 rfl) ?_
              refine lv_iload hx hb d_La_law_658 (lv_at hl 5 rfl) ?_
              refine lv_iconst (v := nI 3) hx hb d_La_law_660 (by decide +kernel) ?_
              refine lv_iadd hx hb d_La_law_661 ?_
              refine aw_ti (nI_add (6 * t) 3) ?_
              refine va_sld hx hb hX hbl hbA hS (i := (nI ((6 * t) + 3))) (vp_in_nI (by omega) (by omega)) d_La_law_662 ?_
              refine aw_ti (y := fr) (by rw [nI_clamp (by omega)]; exact hfr.symm) ?_
              refine lv_aload_n hx hb d_La_law_663 rfl (lv_at hl 1 rfl) ?_
              refine lv_iload hx hb d_La_law_664 (lv_at hl 5 rfl) ?_
              refine lv_iconst (v := nI 4) hx hb d_La_law_666 (by decide +kernel) ?_
              refine lv_iadd hx hb d_La_law_667 ?_
              refine aw_ti (nI_add (6 * t) 4) ?_
              refine va_sld hx hb hX hbl hbA hS (i := (nI ((6 * t) + 4))) (vp_in_nI (by omega) (by omega)) d_La_law_668 ?_
              refine aw_ti (y := m0) (by rw [nI_clamp (by omega)]; exact hm0.symm) ?_
              obtain ⟨_, he244⟩ := zr_M0 hSh
              refine va_calli (va_runV (As := [.int (nI j), .int x243, .int fr, .int m0]) (rest := []) ⟨hx, hb, hml, hown, hG⟩ (k_Mo_feedXbV l D g ad N0 zG zO zX zY zA zB zM zI zL zK zN zF zQ j x243 fr m0 hj hi2) (aw_wV 4 hG gw_12_26 gw_12_23 gw_0_10 gw_12_24 gw_12_25 rfl rfl hd_Mo_feed ⟨Nat.le_of_ble_eq_true rfl, Nat.le_of_ble_eq_true rfl⟩) (ag_qV (va_recv hK hP rfl he244) hP hD hSh hU hS) rfl rfl hl.1 rfl (lv_room (Nat.le_of_ble_eq_true rfl)) d_La_law_669 ⟨by omega, by omega⟩) hS (fun _ _ h => h) (fun _ h => h) ?_
              clear hP hD hSh hS he244
              intro x245 u8 t8 H locs ht _ ex245 hB _ _ hS
              obtain ⟨L, hP, hD, hSh⟩ := hB
              rw [ht] at hP
              clear ht
              have ex245 := ex245.symm
              refine lv_istore hx hb d_La_law_672 hl (by decide) rfl (fun ls hl => ?_)
              have hl : lv_has ls 8 [(6, .int x245), (5, .int (nI 1)), (0, .ref b), (1, .ref (aw_r ad 0)), (2, .ref (aw_m ad 0)), (3, .ref (aw_o ad)), (4, .int (nI (6 * t)))] := hl
              refine lv_goto (tgt := 853) hx hb d_La_law_674 (by decide) ?_
              refine lv_iinc (k := 6) (v := nI (6 * t + 6)) hx hb d_La_law_853 hl rfl (aw_inc (6 * t) 6 6 (by decide +kernel)) (by decide) rfl (fun ls hl => ?_)
              have hl : lv_has ls 8 [(4, .int (nI (6 * t + 6))), (6, .int x245), (5, .int (nI 1)), (0, .ref b), (1, .ref (aw_r ad 0)), (2, .ref (aw_m ad 0)), (3, .ref (aw_o ad))] := hl
              refine lv_goto (tgt := 23) hx hb d_La_law_856 (by decide) ?_
              have hl := lv_sub hl (l' := [(0, .ref b), (1, .ref (aw_r ad 0)), (2, .ref (aw_m ad 0)), (3, .ref (aw_o ad)), (4, .int (nI (6 * t + 6)))]) [3, 4, 5, 6, 0] rfl
              refine W.widen (k := 85 + (t + 1)) (n := 1246 + 6 * (t + 1)) (by omega) (by omega) ?_
              exact ih (t + 1) zG zO zX zY zA zB zM zI zL zK zN (nI 1) zQ _ _ L ls (by omega) hP hD hSh hR hS (by first | exact hl | simpa [Nat.mul_add] using hl)
            refine lv_if_eq (tgt := 656) hx hb d_La_law_649 (by decide) (fun h9 => ?_) (fun h9 => ?_)
            · refine lv_iconst (v := nI 0) hx hb d_La_law_656 (by decide +kernel) ?_
              exact hj242 _ (if_pos h9)
            · refine lv_iconst (v := nI 1) hx hb d_La_law_652 (by decide +kernel) ?_
              refine lv_goto (tgt := 657) hx hb d_La_law_653 (by decide) ?_
              exact hj242 _ (if_neg h9)
          refine lv_if_eq (tgt := 617) hx hb d_La_law_610 (by decide) (fun h9 => ?_) (fun h9 => ?_)
          · refine lv_iconst (v := nI 0) hx hb d_La_law_617 (by decide +kernel) ?_
            exact hj239 _ (if_pos h9)
          · refine lv_iconst (v := nI 1) hx hb d_La_law_613 (by decide +kernel) ?_
            refine lv_goto (tgt := 618) hx hb d_La_law_614 (by decide) ?_
            exact hj239 _ (if_neg h9)
        · rcases aw_p0f fr with hi | ⟨k, rfl, hk⟩
          · by_cases hs : (zG j).1 = 3
            · by_cases h5 : (zG j).2 = 5
              · refine lv_aload_n hx hb d_La_law_597 rfl (lv_at hl 1 rfl) ?_
                refine lv_aload_n hx hb d_La_law_598 rfl (lv_at hl 0 rfl) ?_
                refine lv_iload hx hb d_La_law_599 (lv_at hl 4 rfl) ?_
                refine lv_iconst (v := nI 1) hx hb d_La_law_601 (by decide +kernel) ?_
                refine lv_iadd hx hb d_La_law_602 ?_
                refine aw_ti (nI_add (6 * t) 1) ?_
                refine va_sld hx hb hX hbl hbA hS (i := (nI ((6 * t) + 1))) (vp_in_nI (by omega) (by omega)) d_La_law_603 ?_
                refine aw_ti (y := nI j) (by rw [nI_clamp (by omega)]; exact hc0.symm) ?_
                refine lv_aload_n hx hb d_La_law_604 rfl (lv_at hl 0 rfl) ?_
                refine lv_iload hx hb d_La_law_605 (lv_at hl 4 rfl) ?_
                refine lv_iconst (v := nI 2) hx hb d_La_law_607 (by decide +kernel) ?_
                refine lv_iadd hx hb d_La_law_608 ?_
                refine aw_ti (nI_add (6 * t) 2) ?_
                refine va_sld hx hb hX hbl hbA hS (i := (nI ((6 * t) + 2))) (vp_in_nI (by omega) (by omega)) d_La_law_609 ?_
                refine aw_ti (y := s2) (by rw [nI_clamp (by omega)]; exact hs2.symm) ?_
                have hj246 : ∀ x247 : Int32, (if s2 = 0 then nI 0 else nI 1) = x247 → W p l e room_1 s m #[Value.ref b] below meth c H locs (85 + t) (1246 + 6 * t) (lw_Z below #[Value.ref b] s) (F0 m 618 ls [.int x247, .int (nI j), .ref (aw_r ad 0)]) := by
                  intro x247 ebx247
                  refine lv_aload_n hx hb d_La_law_618 rfl (lv_at hl 0 rfl) ?_
                  refine lv_iload hx hb d_La_law_619 (lv_at hl 4 rfl) ?_
                  refine lv_iconst (v := nI 3) hx hb d_La_law_621 (by decide +kernel) ?_
                  refine lv_iadd hx hb d_La_law_622 ?_
                  refine aw_ti (nI_add (6 * t) 3) ?_
                  refine va_sld hx hb hX hbl hbA hS (i := (nI ((6 * t) + 3))) (vp_in_nI (by omega) (by omega)) d_La_law_623 ?_
                  refine aw_ti (y := fr) (by rw [nI_clamp (by omega)]; exact hfr.symm) ?_
                  refine lv_aload_n hx hb d_La_law_624 rfl (lv_at hl 0 rfl) ?_
                  refine lv_iload hx hb d_La_law_625 (lv_at hl 4 rfl) ?_
                  refine lv_iconst (v := nI 4) hx hb d_La_law_627 (by decide +kernel) ?_
                  refine lv_iadd hx hb d_La_law_628 ?_
                  refine aw_ti (nI_add (6 * t) 4) ?_
                  refine va_sld hx hb hX hbl hbA hS (i := (nI ((6 * t) + 4))) (vp_in_nI (by omega) (by omega)) d_La_law_629 ?_
                  refine aw_ti (y := nI 0) (by rw [nI_clamp (by omega)]; exact hm0.symm) ?_
                  refine lv_aload_n hx hb d_La_law_630 rfl (lv_at hl 3 rfl) ?_
                  refine va_calli (vx_runSW (As := [.ref (aw_r ad 0), .int (nI j), .int x247, .int fr, .int (nI 0), .ref (aw_o ad)]) (rest := []) ⟨hx, hb, hml, hown, hG⟩ (k_La_feedXs0V l hst D g ad N0 zG zO zX zY zA zB zM zI zL zK zN zF zQ j x247 fr hj (by omega)) (aw_wW 6 hG gw_7_42 gw_7_40 gw_0_0 gw_7_41 rfl rfl hd_La_feed ⟨Nat.le_of_ble_eq_true rfl, Nat.le_of_ble_eq_true rfl⟩) (ag_qS hP hD hSh hU hS) rfl rfl hl.1 rfl (lv_room (Nat.le_of_ble_eq_true rfl)) d_La_law_631 ⟨by omega, by omega⟩) hS (fun _ _ h => h) (fun _ h => h) ?_
                  clear hP hD hSh hS
                  intro x248 u8 t8 H locs ht _ ex248 hB _ _ hS
                  obtain ⟨L, hP, hD, hSh⟩ := hB
                  rw [ht] at hP
                  clear ht
                  subst ex248
                  refine lv_istore hx hb d_La_law_634 hl (by decide) rfl (fun ls hl => ?_)
                  have hl : lv_has ls 8 [(5, .int (nI 2)), (0, .ref b), (1, .ref (aw_r ad 0)), (2, .ref (aw_m ad 0)), (3, .ref (aw_o ad)), (4, .int (nI (6 * t)))] := hl
                  refine lv_aload_n hx hb d_La_law_636 rfl (lv_at hl 3 rfl) ?_
                  refine lv_aload_n hx hb d_La_law_637 rfl (lv_at hl 1 rfl) ?_
                  refine lv_iload hx hb d_La_law_638 (lv_at hl 5 rfl) ?_
                  refine lv_iconst (v := nI 1) hx hb d_La_law_640 (by decide +kernel) ?_
                  refine lv_iadd hx hb d_La_law_641 ?_
                  refine aw_ti (nI_add (6 * t) 1) ?_
                  refine va_sld hx hb hX hbl hbA hS (i := (nI ((6 * t) + 1))) (vp_in_nI (by omega) (by omega)) d_La_law_642 ?_
                  refine aw_ti (y := nI j) (by rw [nI_clamp (by omega)]; exact hc0.symm) ?_
                  refine lv_aload_n hx hb d_La_law_643 rfl (lv_at hl 1 rfl) ?_
                  refine lv_iload hx hb d_La_law_644 (lv_at hl 5 rfl) ?_
                  refine lv_iconst (v := nI 2) hx hb d_La_law_646 (by decide +kernel) ?_
                  refine lv_iadd hx hb d_La_law_647 ?_
                  refine aw_ti (nI_add (6 * t) 2) ?_
                  refine va_sld hx hb hX hbl hbA hS (i := (nI ((6 * t) + 2))) (vp_in_nI (by omega) (by omega)) d_La_law_648 ?_
                  refine aw_ti (y := s2) (by rw [nI_clamp (by omega)]; exact hs2.symm) ?_
                  have hj249 : ∀ x250 : Int32, (if s2 = 0 then nI 0 else nI 1) = x250 → W p l e room_1 s m #[Value.ref b] below meth c H locs ((85 + t) + 1) ((1246 + 6 * t) + 6) (lw_Z below #[Value.ref b] s) (F0 m 657 ls [.int x250, .int (nI j), .ref (aw_m ad 0)]) := by
                    intro x250 ebx250
                    refine lv_aload_n hx hb d_La_law_657 rfl (lv_at hl 1 rfl) ?_
                    refine lv_iload hx hb d_La_law_658 (lv_at hl 5 rfl) ?_
                    refine lv_iconst (v := nI 3) hx hb d_La_law_660 (by decide +kernel) ?_
                    refine lv_iadd hx hb d_La_law_661 ?_
                    refine aw_ti (nI_add (6 * t) 3) ?_
                    refine va_sld hx hb hX hbl hbA hS (i := (nI ((6 * t) + 3))) (vp_in_nI (by omega) (by omega)) d_La_law_662 ?_
                    refine aw_ti (y := fr) (by rw [nI_clamp (by omega)]; exact hfr.symm) ?_
                    refine lv_aload_n hx hb d_La_law_663 rfl (lv_at hl 1 rfl) ?_
                    refine lv_iload hx hb d_La_law_664 (lv_at hl 5 rfl) ?_
                    refine lv_iconst (v := nI 4) hx hb d_La_law_666 (by decide +kernel) ?_
                    refine lv_iadd hx hb d_La_law_667 ?_
                    refine aw_ti (nI_add (6 * t) 4) ?_
                    refine va_sld hx hb hX hbl hbA hS (i := (nI ((6 * t) + 4))) (vp_in_nI (by omega) (by omega)) d_La_law_668 ?_
                    refine aw_ti (y := nI 0) (by rw [nI_clamp (by omega)]; exact hm0.symm) ?_
                    obtain ⟨_, he251⟩ := zr_M0 hSh
                    refine va_calli (va_runV (As := [.int (nI j), .int x250, .int fr, .int (nI 0)]) (rest := []) ⟨hx, hb, hml, hown, hG⟩ (k_Mo_feedXbV l D g ad N0 zG zO zX zY zA zB zM zI zL zK zN zF zQ j x250 fr (nI 0) hj hi) (aw_wV 4 hG gw_12_26 gw_12_23 gw_0_10 gw_12_24 gw_12_25 rfl rfl hd_Mo_feed ⟨Nat.le_of_ble_eq_true rfl, Nat.le_of_ble_eq_true rfl⟩) (ag_qV (va_recv hK hP rfl he251) hP hD hSh hU hS) rfl rfl hl.1 rfl (lv_room (Nat.le_of_ble_eq_true rfl)) d_La_law_669 ⟨by omega, by omega⟩) hS (fun _ _ h => h) (fun _ h => h) ?_
                    clear hP hD hSh hS he251
                    intro x252 u8 t8 H locs ht _ ex252 hB _ _ hS
                    obtain ⟨L, hP, hD, hSh⟩ := hB
                    rw [ht] at hP
                    clear ht
                    have ex252 := ex252.symm
                    refine lv_istore hx hb d_La_law_672 hl (by decide) rfl (fun ls hl => ?_)
                    have hl : lv_has ls 8 [(6, .int x252), (5, .int (nI 2)), (0, .ref b), (1, .ref (aw_r ad 0)), (2, .ref (aw_m ad 0)), (3, .ref (aw_o ad)), (4, .int (nI (6 * t)))] := hl
                    refine lv_goto (tgt := 853) hx hb d_La_law_674 (by decide) ?_
                    refine lv_iinc (k := 6) (v := nI (6 * t + 6)) hx hb d_La_law_853 hl rfl (aw_inc (6 * t) 6 6 (by decide +kernel)) (by decide) rfl (fun ls hl => ?_)
                    have hl : lv_has ls 8 [(4, .int (nI (6 * t + 6))), (6, .int x252), (5, .int (nI 2)), (0, .ref b), (1, .ref (aw_r ad 0)), (2, .ref (aw_m ad 0)), (3, .ref (aw_o ad))] := hl
                    refine lv_goto (tgt := 23) hx hb d_La_law_856 (by decide) ?_
                    have hl := lv_sub hl (l' := [(0, .ref b), (1, .ref (aw_r ad 0)), (2, .ref (aw_m ad 0)), (3, .ref (aw_o ad)), (4, .int (nI (6 * t + 6)))]) [3, 4, 5, 6, 0] rfl
                    refine W.widen (k := 85 + (t + 1)) (n := 1246 + 6 * (t + 1)) (by omega) (by omega) ?_
                    exact ih (t + 1) zG zO zX zY zA zB zM zI zL zK zN (nI 1) zQ _ _ L ls (by omega) hP hD hSh hR hS (by first | exact hl | simpa [Nat.mul_add] using hl)
                  refine lv_if_eq (tgt := 656) hx hb d_La_law_649 (by decide) (fun h9 => ?_) (fun h9 => ?_)
                  · refine lv_iconst (v := nI 0) hx hb d_La_law_656 (by decide +kernel) ?_
                    exact hj249 _ (if_pos h9)
                  · refine lv_iconst (v := nI 1) hx hb d_La_law_652 (by decide +kernel) ?_
                    refine lv_goto (tgt := 657) hx hb d_La_law_653 (by decide) ?_
                    exact hj249 _ (if_neg h9)
                refine lv_if_eq (tgt := 617) hx hb d_La_law_610 (by decide) (fun h9 => ?_) (fun h9 => ?_)
                · refine lv_iconst (v := nI 0) hx hb d_La_law_617 (by decide +kernel) ?_
                  exact hj246 _ (if_pos h9)
                · refine lv_iconst (v := nI 1) hx hb d_La_law_613 (by decide +kernel) ?_
                  refine lv_goto (tgt := 618) hx hb d_La_law_614 (by decide) ?_
                  exact hj246 _ (if_neg h9)
              · by_cases hm : (zG j).2 ≤ 1
                · refine lv_aload_n hx hb d_La_law_597 rfl (lv_at hl 1 rfl) ?_
                  refine lv_aload_n hx hb d_La_law_598 rfl (lv_at hl 0 rfl) ?_
                  refine lv_iload hx hb d_La_law_599 (lv_at hl 4 rfl) ?_
                  refine lv_iconst (v := nI 1) hx hb d_La_law_601 (by decide +kernel) ?_
                  refine lv_iadd hx hb d_La_law_602 ?_
                  refine aw_ti (nI_add (6 * t) 1) ?_
                  refine va_sld hx hb hX hbl hbA hS (i := (nI ((6 * t) + 1))) (vp_in_nI (by omega) (by omega)) d_La_law_603 ?_
                  refine aw_ti (y := nI j) (by rw [nI_clamp (by omega)]; exact hc0.symm) ?_
                  refine lv_aload_n hx hb d_La_law_604 rfl (lv_at hl 0 rfl) ?_
                  refine lv_iload hx hb d_La_law_605 (lv_at hl 4 rfl) ?_
                  refine lv_iconst (v := nI 2) hx hb d_La_law_607 (by decide +kernel) ?_
                  refine lv_iadd hx hb d_La_law_608 ?_
                  refine aw_ti (nI_add (6 * t) 2) ?_
                  refine va_sld hx hb hX hbl hbA hS (i := (nI ((6 * t) + 2))) (vp_in_nI (by omega) (by omega)) d_La_law_609 ?_
                  refine aw_ti (y := s2) (by rw [nI_clamp (by omega)]; exact hs2.symm) ?_
                  have hj253 : ∀ x254 : Int32, (if s2 = 0 then nI 0 else nI 1) = x254 → W p l e room_1 s m #[Value.ref b] below meth c H locs (85 + t) (1246 + 6 * t) (lw_Z below #[Value.ref b] s) (F0 m 618 ls [.int x254, .int (nI j), .ref (aw_r ad 0)]) := by
                    intro x254 ebx254
                    refine lv_aload_n hx hb d_La_law_618 rfl (lv_at hl 0 rfl) ?_
                    refine lv_iload hx hb d_La_law_619 (lv_at hl 4 rfl) ?_
                    refine lv_iconst (v := nI 3) hx hb d_La_law_621 (by decide +kernel) ?_
                    refine lv_iadd hx hb d_La_law_622 ?_
                    refine aw_ti (nI_add (6 * t) 3) ?_
                    refine va_sld hx hb hX hbl hbA hS (i := (nI ((6 * t) + 3))) (vp_in_nI (by omega) (by omega)) d_La_law_623 ?_
                    refine aw_ti (y := fr) (by rw [nI_clamp (by omega)]; exact hfr.symm) ?_
                    refine lv_aload_n hx hb d_La_law_624 rfl (lv_at hl 0 rfl) ?_
                    refine lv_iload hx hb d_La_law_625 (lv_at hl 4 rfl) ?_
                    refine lv_iconst (v := nI 4) hx hb d_La_law_627 (by decide +kernel) ?_
                    refine lv_iadd hx hb d_La_law_628 ?_
                    refine aw_ti (nI_add (6 * t) 4) ?_
                    refine va_sld hx hb hX hbl hbA hS (i := (nI ((6 * t) + 4))) (vp_in_nI (by omega) (by omega)) d_La_law_629 ?_
                    refine aw_ti (y := nI 0) (by rw [nI_clamp (by omega)]; exact hm0.symm) ?_
                    refine lv_aload_n hx hb d_La_law_630 rfl (lv_at hl 3 rfl) ?_
                    refine va_calli (vx_runSW (As := [.ref (aw_r ad 0), .int (nI j), .int x254, .int fr, .int (nI 0), .ref (aw_o ad)]) (rest := []) ⟨hx, hb, hml, hown, hG⟩ (k_La_feed10bV l hst D g ad N0 zG zO zX zY zA zB zM zI zL zK zN zF zQ j x254 fr hj (by omega) (by omega)) (aw_wW 6 hG gw_7_42 gw_7_40 gw_0_0 gw_7_41 rfl rfl hd_La_feed ⟨Nat.le_of_ble_eq_true rfl, Nat.le_of_ble_eq_true rfl⟩) (ag_qS hP hD hSh hU hS) rfl rfl hl.1 rfl (lv_room (Nat.le_of_ble_eq_true rfl)) d_La_law_631 ⟨by omega, by omega⟩) hS (fun _ _ h => h) (fun _ h => h) ?_
                    clear hP hD hSh hS
                    intro x255 u8 t8 H locs ht _ ex255 hB _ _ hS
                    obtain ⟨L, hP, hD, hSh⟩ := hB
                    rw [ht] at hP
                    clear ht
                    subst ex255
                    obtain ⟨zY256, ezY256⟩ : ∃ z : Nat → Nat → Int32, v_La_feed10bV_zY zY j = z := ⟨_, rfl⟩
                    rw [ezY256] at hSh
                    obtain ⟨zQ257, ezQ257⟩ : ∃ z : Int64, v_La_feed10bV_zQ zY j = z := ⟨_, rfl⟩
                    rw [ezQ257] at hSh
                    refine lv_istore hx hb d_La_law_634 hl (by decide) rfl (fun ls hl => ?_)
                    have hl : lv_has ls 8 [(5, .int (nI 0)), (0, .ref b), (1, .ref (aw_r ad 0)), (2, .ref (aw_m ad 0)), (3, .ref (aw_o ad)), (4, .int (nI (6 * t)))] := hl
                    refine lv_aload_n hx hb d_La_law_636 rfl (lv_at hl 3 rfl) ?_
                    refine lv_aload_n hx hb d_La_law_637 rfl (lv_at hl 1 rfl) ?_
                    refine lv_iload hx hb d_La_law_638 (lv_at hl 5 rfl) ?_
                    refine lv_iconst (v := nI 1) hx hb d_La_law_640 (by decide +kernel) ?_
                    refine lv_iadd hx hb d_La_law_641 ?_
                    refine aw_ti (nI_add (6 * t) 1) ?_
                    refine va_sld hx hb hX hbl hbA hS (i := (nI ((6 * t) + 1))) (vp_in_nI (by omega) (by omega)) d_La_law_642 ?_
                    refine aw_ti (y := nI j) (by rw [nI_clamp (by omega)]; exact hc0.symm) ?_
                    refine lv_aload_n hx hb d_La_law_643 rfl (lv_at hl 1 rfl) ?_
                    refine lv_iload hx hb d_La_law_644 (lv_at hl 5 rfl) ?_
                    refine lv_iconst (v := nI 2) hx hb d_La_law_646 (by decide +kernel) ?_
                    refine lv_iadd hx hb d_La_law_647 ?_
                    refine aw_ti (nI_add (6 * t) 2) ?_
                    refine va_sld hx hb hX hbl hbA hS (i := (nI ((6 * t) + 2))) (vp_in_nI (by omega) (by omega)) d_La_law_648 ?_
                    refine aw_ti (y := s2) (by rw [nI_clamp (by omega)]; exact hs2.symm) ?_
                    have hj258 : ∀ x259 : Int32, (if s2 = 0 then nI 0 else nI 1) = x259 → W p l e room_1 s m #[Value.ref b] below meth c H locs ((85 + t) + 1) ((1246 + 6 * t) + 6) (lw_Z below #[Value.ref b] s) (F0 m 657 ls [.int x259, .int (nI j), .ref (aw_m ad 0)]) := by
                      intro x259 ebx259
                      refine lv_aload_n hx hb d_La_law_657 rfl (lv_at hl 1 rfl) ?_
                      refine lv_iload hx hb d_La_law_658 (lv_at hl 5 rfl) ?_
                      refine lv_iconst (v := nI 3) hx hb d_La_law_660 (by decide +kernel) ?_
                      refine lv_iadd hx hb d_La_law_661 ?_
                      refine aw_ti (nI_add (6 * t) 3) ?_
                      refine va_sld hx hb hX hbl hbA hS (i := (nI ((6 * t) + 3))) (vp_in_nI (by omega) (by omega)) d_La_law_662 ?_
                      refine aw_ti (y := fr) (by rw [nI_clamp (by omega)]; exact hfr.symm) ?_
                      refine lv_aload_n hx hb d_La_law_663 rfl (lv_at hl 1 rfl) ?_
                      refine lv_iload hx hb d_La_law_664 (lv_at hl 5 rfl) ?_
                      refine lv_iconst (v := nI 4) hx hb d_La_law_666 (by decide +kernel) ?_
                      refine lv_iadd hx hb d_La_law_667 ?_
                      refine aw_ti (nI_add (6 * t) 4) ?_
                      refine va_sld hx hb hX hbl hbA hS (i := (nI ((6 * t) + 4))) (vp_in_nI (by omega) (by omega)) d_La_law_668 ?_
                      refine aw_ti (y := nI 0) (by rw [nI_clamp (by omega)]; exact hm0.symm) ?_
                      obtain ⟨_, he260⟩ := zr_M0 hSh
                      refine va_calli (va_runV (As := [.int (nI j), .int x259, .int fr, .int (nI 0)]) (rest := []) ⟨hx, hb, hml, hown, hG⟩ (k_Mo_feedXbV l D g ad N0 zG zO zX zY256 zA zB zM zI zL zK zN zF zQ257 j x259 fr (nI 0) hj hi) (aw_wV 4 hG gw_12_26 gw_12_23 gw_0_10 gw_12_24 gw_12_25 rfl rfl hd_Mo_feed ⟨Nat.le_of_ble_eq_true rfl, Nat.le_of_ble_eq_true rfl⟩) (ag_qV (va_recv hK hP rfl he260) hP hD hSh hU hS) rfl rfl hl.1 rfl (lv_room (Nat.le_of_ble_eq_true rfl)) d_La_law_669 ⟨by omega, by omega⟩) hS (fun _ _ h => h) (fun _ h => h) ?_
                      clear hP hD hSh hS he260
                      intro x261 u8 t8 H locs ht _ ex261 hB _ _ hS
                      obtain ⟨L, hP, hD, hSh⟩ := hB
                      rw [ht] at hP
                      clear ht
                      have ex261 := ex261.symm
                      refine lv_istore hx hb d_La_law_672 hl (by decide) rfl (fun ls hl => ?_)
                      have hl : lv_has ls 8 [(6, .int x261), (5, .int (nI 0)), (0, .ref b), (1, .ref (aw_r ad 0)), (2, .ref (aw_m ad 0)), (3, .ref (aw_o ad)), (4, .int (nI (6 * t)))] := hl
                      refine lv_goto (tgt := 853) hx hb d_La_law_674 (by decide) ?_
                      refine lv_iinc (k := 6) (v := nI (6 * t + 6)) hx hb d_La_law_853 hl rfl (aw_inc (6 * t) 6 6 (by decide +kernel)) (by decide) rfl (fun ls hl => ?_)
                      have hl : lv_has ls 8 [(4, .int (nI (6 * t + 6))), (6, .int x261), (5, .int (nI 0)), (0, .ref b), (1, .ref (aw_r ad 0)), (2, .ref (aw_m ad 0)), (3, .ref (aw_o ad))] := hl
                      refine lv_goto (tgt := 23) hx hb d_La_law_856 (by decide) ?_
                      have hl := lv_sub hl (l' := [(0, .ref b), (1, .ref (aw_r ad 0)), (2, .ref (aw_m ad 0)), (3, .ref (aw_o ad)), (4, .int (nI (6 * t + 6)))]) [3, 4, 5, 6, 0] rfl
                      refine W.widen (k := 85 + (t + 1)) (n := 1246 + 6 * (t + 1)) (by omega) (by omega) ?_
                      have hR : az_R zG zO zX zY256 zA zB zM zI zL := by
                        subst ex261 ebx259 ezQ257 ezY256 ebx254
                        exact r_feed10b_Xb hR hj hs hm
                      exact ih (t + 1) zG zO zX zY256 zA zB zM zI zL zK zN (nI 1) zQ257 _ _ L ls (by omega) hP hD hSh hR hS (by first | exact hl | simpa [Nat.mul_add] using hl)
                    refine lv_if_eq (tgt := 656) hx hb d_La_law_649 (by decide) (fun h9 => ?_) (fun h9 => ?_)
                    · refine lv_iconst (v := nI 0) hx hb d_La_law_656 (by decide +kernel) ?_
                      exact hj258 _ (if_pos h9)
                    · refine lv_iconst (v := nI 1) hx hb d_La_law_652 (by decide +kernel) ?_
                      refine lv_goto (tgt := 657) hx hb d_La_law_653 (by decide) ?_
                      exact hj258 _ (if_neg h9)
                  refine lv_if_eq (tgt := 617) hx hb d_La_law_610 (by decide) (fun h9 => ?_) (fun h9 => ?_)
                  · refine lv_iconst (v := nI 0) hx hb d_La_law_617 (by decide +kernel) ?_
                    exact hj253 _ (if_pos h9)
                  · refine lv_iconst (v := nI 1) hx hb d_La_law_613 (by decide +kernel) ?_
                    refine lv_goto (tgt := 618) hx hb d_La_law_614 (by decide) ?_
                    exact hj253 _ (if_neg h9)
                · refine lv_aload_n hx hb d_La_law_597 rfl (lv_at hl 1 rfl) ?_
                  refine lv_aload_n hx hb d_La_law_598 rfl (lv_at hl 0 rfl) ?_
                  refine lv_iload hx hb d_La_law_599 (lv_at hl 4 rfl) ?_
                  refine lv_iconst (v := nI 1) hx hb d_La_law_601 (by decide +kernel) ?_
                  refine lv_iadd hx hb d_La_law_602 ?_
                  refine aw_ti (nI_add (6 * t) 1) ?_
                  refine va_sld hx hb hX hbl hbA hS (i := (nI ((6 * t) + 1))) (vp_in_nI (by omega) (by omega)) d_La_law_603 ?_
                  refine aw_ti (y := nI j) (by rw [nI_clamp (by omega)]; exact hc0.symm) ?_
                  refine lv_aload_n hx hb d_La_law_604 rfl (lv_at hl 0 rfl) ?_
                  refine lv_iload hx hb d_La_law_605 (lv_at hl 4 rfl) ?_
                  refine lv_iconst (v := nI 2) hx hb d_La_law_607 (by decide +kernel) ?_
                  refine lv_iadd hx hb d_La_law_608 ?_
                  refine aw_ti (nI_add (6 * t) 2) ?_
                  refine va_sld hx hb hX hbl hbA hS (i := (nI ((6 * t) + 2))) (vp_in_nI (by omega) (by omega)) d_La_law_609 ?_
                  refine aw_ti (y := s2) (by rw [nI_clamp (by omega)]; exact hs2.symm) ?_
                  have hj262 : ∀ x263 : Int32, (if s2 = 0 then nI 0 else nI 1) = x263 → W p l e room_1 s m #[Value.ref b] below meth c H locs (85 + t) (1246 + 6 * t) (lw_Z below #[Value.ref b] s) (F0 m 618 ls [.int x263, .int (nI j), .ref (aw_r ad 0)]) := by
                    intro x263 ebx263
                    refine lv_aload_n hx hb d_La_law_618 rfl (lv_at hl 0 rfl) ?_
                    refine lv_iload hx hb d_La_law_619 (lv_at hl 4 rfl) ?_
                    refine lv_iconst (v := nI 3) hx hb d_La_law_621 (by decide +kernel) ?_
                    refine lv_iadd hx hb d_La_law_622 ?_
                    refine aw_ti (nI_add (6 * t) 3) ?_
                    refine va_sld hx hb hX hbl hbA hS (i := (nI ((6 * t) + 3))) (vp_in_nI (by omega) (by omega)) d_La_law_623 ?_
                    refine aw_ti (y := fr) (by rw [nI_clamp (by omega)]; exact hfr.symm) ?_
                    refine lv_aload_n hx hb d_La_law_624 rfl (lv_at hl 0 rfl) ?_
                    refine lv_iload hx hb d_La_law_625 (lv_at hl 4 rfl) ?_
                    refine lv_iconst (v := nI 4) hx hb d_La_law_627 (by decide +kernel) ?_
                    refine lv_iadd hx hb d_La_law_628 ?_
                    refine aw_ti (nI_add (6 * t) 4) ?_
                    refine va_sld hx hb hX hbl hbA hS (i := (nI ((6 * t) + 4))) (vp_in_nI (by omega) (by omega)) d_La_law_629 ?_
                    refine aw_ti (y := nI 0) (by rw [nI_clamp (by omega)]; exact hm0.symm) ?_
                    refine lv_aload_n hx hb d_La_law_630 rfl (lv_at hl 3 rfl) ?_
                    refine va_calli (vx_runSW (As := [.ref (aw_r ad 0), .int (nI j), .int x263, .int fr, .int (nI 0), .ref (aw_o ad)]) (rest := []) ⟨hx, hb, hml, hown, hG⟩ (k_La_feed10V l hst D g ad N0 zG zO zX zY zA zB zM zI zL zK zN zF zQ j x263 fr hj (by omega) (by omega) (by omega)) (aw_wW 6 hG gw_7_42 gw_7_40 gw_0_0 gw_7_41 rfl rfl hd_La_feed ⟨Nat.le_of_ble_eq_true rfl, Nat.le_of_ble_eq_true rfl⟩) (ag_qS hP hD hSh hU hS) rfl rfl hl.1 rfl (lv_room (Nat.le_of_ble_eq_true rfl)) d_La_law_631 ⟨by omega, by omega⟩) hS (fun _ _ h => h) (fun _ h => h) ?_
                    clear hP hD hSh hS
                    intro x264 u8 t8 H locs ht _ ex264 hB _ _ hS
                    obtain ⟨L, hP, hD, hSh⟩ := hB
                    rw [ht] at hP
                    clear ht
                    subst ex264
                    obtain ⟨zY265, ezY265⟩ : ∃ z : Nat → Nat → Int32, v_La_feed10V_zY zY j = z := ⟨_, rfl⟩
                    rw [ezY265] at hSh
                    obtain ⟨zQ266, ezQ266⟩ : ∃ z : Int64, v_La_feed10V_zQ zY j = z := ⟨_, rfl⟩
                    rw [ezQ266] at hSh
                    refine lv_istore hx hb d_La_law_634 hl (by decide) rfl (fun ls hl => ?_)
                    have hl : lv_has ls 8 [(5, .int (nI 0)), (0, .ref b), (1, .ref (aw_r ad 0)), (2, .ref (aw_m ad 0)), (3, .ref (aw_o ad)), (4, .int (nI (6 * t)))] := hl
                    refine lv_aload_n hx hb d_La_law_636 rfl (lv_at hl 3 rfl) ?_
                    refine lv_aload_n hx hb d_La_law_637 rfl (lv_at hl 1 rfl) ?_
                    refine lv_iload hx hb d_La_law_638 (lv_at hl 5 rfl) ?_
                    refine lv_iconst (v := nI 1) hx hb d_La_law_640 (by decide +kernel) ?_
                    refine lv_iadd hx hb d_La_law_641 ?_
                    refine aw_ti (nI_add (6 * t) 1) ?_
                    refine va_sld hx hb hX hbl hbA hS (i := (nI ((6 * t) + 1))) (vp_in_nI (by omega) (by omega)) d_La_law_642 ?_
                    refine aw_ti (y := nI j) (by rw [nI_clamp (by omega)]; exact hc0.symm) ?_
                    refine lv_aload_n hx hb d_La_law_643 rfl (lv_at hl 1 rfl) ?_
                    refine lv_iload hx hb d_La_law_644 (lv_at hl 5 rfl) ?_
                    refine lv_iconst (v := nI 2) hx hb d_La_law_646 (by decide +kernel) ?_
                    refine lv_iadd hx hb d_La_law_647 ?_
                    refine aw_ti (nI_add (6 * t) 2) ?_
                    refine va_sld hx hb hX hbl hbA hS (i := (nI ((6 * t) + 2))) (vp_in_nI (by omega) (by omega)) d_La_law_648 ?_
                    refine aw_ti (y := s2) (by rw [nI_clamp (by omega)]; exact hs2.symm) ?_
                    have hj267 : ∀ x268 : Int32, (if s2 = 0 then nI 0 else nI 1) = x268 → W p l e room_1 s m #[Value.ref b] below meth c H locs ((85 + t) + 1) ((1246 + 6 * t) + 6) (lw_Z below #[Value.ref b] s) (F0 m 657 ls [.int x268, .int (nI j), .ref (aw_m ad 0)]) := by
                      intro x268 ebx268
                      refine lv_aload_n hx hb d_La_law_657 rfl (lv_at hl 1 rfl) ?_
                      refine lv_iload hx hb d_La_law_658 (lv_at hl 5 rfl) ?_
                      refine lv_iconst (v := nI 3) hx hb d_La_law_660 (by decide +kernel) ?_
                      refine lv_iadd hx hb d_La_law_661 ?_
                      refine aw_ti (nI_add (6 * t) 3) ?_
                      refine va_sld hx hb hX hbl hbA hS (i := (nI ((6 * t) + 3))) (vp_in_nI (by omega) (by omega)) d_La_law_662 ?_
                      refine aw_ti (y := fr) (by rw [nI_clamp (by omega)]; exact hfr.symm) ?_
                      refine lv_aload_n hx hb d_La_law_663 rfl (lv_at hl 1 rfl) ?_
                      refine lv_iload hx hb d_La_law_664 (lv_at hl 5 rfl) ?_
                      refine lv_iconst (v := nI 4) hx hb d_La_law_666 (by decide +kernel) ?_
                      refine lv_iadd hx hb d_La_law_667 ?_
                      refine aw_ti (nI_add (6 * t) 4) ?_
                      refine va_sld hx hb hX hbl hbA hS (i := (nI ((6 * t) + 4))) (vp_in_nI (by omega) (by omega)) d_La_law_668 ?_
                      refine aw_ti (y := nI 0) (by rw [nI_clamp (by omega)]; exact hm0.symm) ?_
                      obtain ⟨_, he269⟩ := zr_M0 hSh
                      refine va_calli (va_runV (As := [.int (nI j), .int x268, .int fr, .int (nI 0)]) (rest := []) ⟨hx, hb, hml, hown, hG⟩ (k_Mo_feedXbV l D g ad N0 zG zO zX zY265 zA zB zM zI zL zK zN zF zQ266 j x268 fr (nI 0) hj hi) (aw_wV 4 hG gw_12_26 gw_12_23 gw_0_10 gw_12_24 gw_12_25 rfl rfl hd_Mo_feed ⟨Nat.le_of_ble_eq_true rfl, Nat.le_of_ble_eq_true rfl⟩) (ag_qV (va_recv hK hP rfl he269) hP hD hSh hU hS) rfl rfl hl.1 rfl (lv_room (Nat.le_of_ble_eq_true rfl)) d_La_law_669 ⟨by omega, by omega⟩) hS (fun _ _ h => h) (fun _ h => h) ?_
                      clear hP hD hSh hS he269
                      intro x270 u8 t8 H locs ht _ ex270 hB _ _ hS
                      obtain ⟨L, hP, hD, hSh⟩ := hB
                      rw [ht] at hP
                      clear ht
                      have ex270 := ex270.symm
                      refine lv_istore hx hb d_La_law_672 hl (by decide) rfl (fun ls hl => ?_)
                      have hl : lv_has ls 8 [(6, .int x270), (5, .int (nI 0)), (0, .ref b), (1, .ref (aw_r ad 0)), (2, .ref (aw_m ad 0)), (3, .ref (aw_o ad)), (4, .int (nI (6 * t)))] := hl
                      refine lv_goto (tgt := 853) hx hb d_La_law_674 (by decide) ?_
                      refine lv_iinc (k := 6) (v := nI (6 * t + 6)) hx hb d_La_law_853 hl rfl (aw_inc (6 * t) 6 6 (by decide +kernel)) (by decide) rfl (fun ls hl => ?_)
                      have hl : lv_has ls 8 [(4, .int (nI (6 * t + 6))), (6, .int x270), (5, .int (nI 0)), (0, .ref b), (1, .ref (aw_r ad 0)), (2, .ref (aw_m ad 0)), (3, .ref (aw_o ad))] := hl
                      refine lv_goto (tgt := 23) hx hb d_La_law_856 (by decide) ?_
                      have hl := lv_sub hl (l' := [(0, .ref b), (1, .ref (aw_r ad 0)), (2, .ref (aw_m ad 0)), (3, .ref (aw_o ad)), (4, .int (nI (6 * t + 6)))]) [3, 4, 5, 6, 0] rfl
                      refine W.widen (k := 85 + (t + 1)) (n := 1246 + 6 * (t + 1)) (by omega) (by omega) ?_
                      have hR : az_R zG zO zX zY265 zA zB zM zI zL := by
                        subst ex270 ebx268 ezQ266 ezY265 ebx263
                        exact r_feed10_Xb hR hj hs (by omega)
                      exact ih (t + 1) zG zO zX zY265 zA zB zM zI zL zK zN (nI 1) zQ266 _ _ L ls (by omega) hP hD hSh hR hS (by first | exact hl | simpa [Nat.mul_add] using hl)
                    refine lv_if_eq (tgt := 656) hx hb d_La_law_649 (by decide) (fun h9 => ?_) (fun h9 => ?_)
                    · refine lv_iconst (v := nI 0) hx hb d_La_law_656 (by decide +kernel) ?_
                      exact hj267 _ (if_pos h9)
                    · refine lv_iconst (v := nI 1) hx hb d_La_law_652 (by decide +kernel) ?_
                      refine lv_goto (tgt := 657) hx hb d_La_law_653 (by decide) ?_
                      exact hj267 _ (if_neg h9)
                  refine lv_if_eq (tgt := 617) hx hb d_La_law_610 (by decide) (fun h9 => ?_) (fun h9 => ?_)
                  · refine lv_iconst (v := nI 0) hx hb d_La_law_617 (by decide +kernel) ?_
                    exact hj262 _ (if_pos h9)
                  · refine lv_iconst (v := nI 1) hx hb d_La_law_613 (by decide +kernel) ?_
                    refine lv_goto (tgt := 618) hx hb d_La_law_614 (by decide) ?_
                    exact hj262 _ (if_neg h9)
            · refine lv_aload_n hx hb d_La_law_597 rfl (lv_at hl 1 rfl) ?_
              refine lv_aload_n hx hb d_La_law_598 rfl (lv_at hl 0 rfl) ?_
              refine lv_iload hx hb d_La_law_599 (lv_at hl 4 rfl) ?_
              refine lv_iconst (v := nI 1) hx hb d_La_law_601 (by decide +kernel) ?_
              refine lv_iadd hx hb d_La_law_602 ?_
              refine aw_ti (nI_add (6 * t) 1) ?_
              refine va_sld hx hb hX hbl hbA hS (i := (nI ((6 * t) + 1))) (vp_in_nI (by omega) (by omega)) d_La_law_603 ?_
              refine aw_ti (y := nI j) (by rw [nI_clamp (by omega)]; exact hc0.symm) ?_
              refine lv_aload_n hx hb d_La_law_604 rfl (lv_at hl 0 rfl) ?_
              refine lv_iload hx hb d_La_law_605 (lv_at hl 4 rfl) ?_
              refine lv_iconst (v := nI 2) hx hb d_La_law_607 (by decide +kernel) ?_
              refine lv_iadd hx hb d_La_law_608 ?_
              refine aw_ti (nI_add (6 * t) 2) ?_
              refine va_sld hx hb hX hbl hbA hS (i := (nI ((6 * t) + 2))) (vp_in_nI (by omega) (by omega)) d_La_law_609 ?_
              refine aw_ti (y := s2) (by rw [nI_clamp (by omega)]; exact hs2.symm) ?_
              have hj271 : ∀ x272 : Int32, (if s2 = 0 then nI 0 else nI 1) = x272 → W p l e room_1 s m #[Value.ref b] below meth c H locs (85 + t) (1246 + 6 * t) (lw_Z below #[Value.ref b] s) (F0 m 618 ls [.int x272, .int (nI j), .ref (aw_r ad 0)]) := by
                intro x272 ebx272
                refine lv_aload_n hx hb d_La_law_618 rfl (lv_at hl 0 rfl) ?_
                refine lv_iload hx hb d_La_law_619 (lv_at hl 4 rfl) ?_
                refine lv_iconst (v := nI 3) hx hb d_La_law_621 (by decide +kernel) ?_
                refine lv_iadd hx hb d_La_law_622 ?_
                refine aw_ti (nI_add (6 * t) 3) ?_
                refine va_sld hx hb hX hbl hbA hS (i := (nI ((6 * t) + 3))) (vp_in_nI (by omega) (by omega)) d_La_law_623 ?_
                refine aw_ti (y := fr) (by rw [nI_clamp (by omega)]; exact hfr.symm) ?_
                refine lv_aload_n hx hb d_La_law_624 rfl (lv_at hl 0 rfl) ?_
                refine lv_iload hx hb d_La_law_625 (lv_at hl 4 rfl) ?_
                refine lv_iconst (v := nI 4) hx hb d_La_law_627 (by decide +kernel) ?_
                refine lv_iadd hx hb d_La_law_628 ?_
                refine aw_ti (nI_add (6 * t) 4) ?_
                refine va_sld hx hb hX hbl hbA hS (i := (nI ((6 * t) + 4))) (vp_in_nI (by omega) (by omega)) d_La_law_629 ?_
                refine aw_ti (y := nI 0) (by rw [nI_clamp (by omega)]; exact hm0.symm) ?_
                refine lv_aload_n hx hb d_La_law_630 rfl (lv_at hl 3 rfl) ?_
                refine va_calli (vx_runSW (As := [.ref (aw_r ad 0), .int (nI j), .int x272, .int fr, .int (nI 0), .ref (aw_o ad)]) (rest := []) ⟨hx, hb, hml, hown, hG⟩ (k_La_feedXs0V l hst D g ad N0 zG zO zX zY zA zB zM zI zL zK zN zF zQ j x272 fr hj (by omega)) (aw_wW 6 hG gw_7_42 gw_7_40 gw_0_0 gw_7_41 rfl rfl hd_La_feed ⟨Nat.le_of_ble_eq_true rfl, Nat.le_of_ble_eq_true rfl⟩) (ag_qS hP hD hSh hU hS) rfl rfl hl.1 rfl (lv_room (Nat.le_of_ble_eq_true rfl)) d_La_law_631 ⟨by omega, by omega⟩) hS (fun _ _ h => h) (fun _ h => h) ?_
                clear hP hD hSh hS
                intro x273 u8 t8 H locs ht _ ex273 hB _ _ hS
                obtain ⟨L, hP, hD, hSh⟩ := hB
                rw [ht] at hP
                clear ht
                subst ex273
                refine lv_istore hx hb d_La_law_634 hl (by decide) rfl (fun ls hl => ?_)
                have hl : lv_has ls 8 [(5, .int (nI 2)), (0, .ref b), (1, .ref (aw_r ad 0)), (2, .ref (aw_m ad 0)), (3, .ref (aw_o ad)), (4, .int (nI (6 * t)))] := hl
                refine lv_aload_n hx hb d_La_law_636 rfl (lv_at hl 3 rfl) ?_
                refine lv_aload_n hx hb d_La_law_637 rfl (lv_at hl 1 rfl) ?_
                refine lv_iload hx hb d_La_law_638 (lv_at hl 5 rfl) ?_
                refine lv_iconst (v := nI 1) hx hb d_La_law_640 (by decide +kernel) ?_
                refine lv_iadd hx hb d_La_law_641 ?_
                refine aw_ti (nI_add (6 * t) 1) ?_
                refine va_sld hx hb hX hbl hbA hS (i := (nI ((6 * t) + 1))) (vp_in_nI (by omega) (by omega)) d_La_law_642 ?_
                refine aw_ti (y := nI j) (by rw [nI_clamp (by omega)]; exact hc0.symm) ?_
                refine lv_aload_n hx hb d_La_law_643 rfl (lv_at hl 1 rfl) ?_
                refine lv_iload hx hb d_La_law_644 (lv_at hl 5 rfl) ?_
                refine lv_iconst (v := nI 2) hx hb d_La_law_646 (by decide +kernel) ?_
                refine lv_iadd hx hb d_La_law_647 ?_
                refine aw_ti (nI_add (6 * t) 2) ?_
                refine va_sld hx hb hX hbl hbA hS (i := (nI ((6 * t) + 2))) (vp_in_nI (by omega) (by omega)) d_La_law_648 ?_
                refine aw_ti (y := s2) (by rw [nI_clamp (by omega)]; exact hs2.symm) ?_
                have hj274 : ∀ x275 : Int32, (if s2 = 0 then nI 0 else nI 1) = x275 → W p l e room_1 s m #[Value.ref b] below meth c H locs ((85 + t) + 1) ((1246 + 6 * t) + 6) (lw_Z below #[Value.ref b] s) (F0 m 657 ls [.int x275, .int (nI j), .ref (aw_m ad 0)]) := by
                  intro x275 ebx275
                  refine lv_aload_n hx hb d_La_law_657 rfl (lv_at hl 1 rfl) ?_
                  refine lv_iload hx hb d_La_law_658 (lv_at hl 5 rfl) ?_
                  refine lv_iconst (v := nI 3) hx hb d_La_law_660 (by decide +kernel) ?_
                  refine lv_iadd hx hb d_La_law_661 ?_
                  refine aw_ti (nI_add (6 * t) 3) ?_
                  refine va_sld hx hb hX hbl hbA hS (i := (nI ((6 * t) + 3))) (vp_in_nI (by omega) (by omega)) d_La_law_662 ?_
                  refine aw_ti (y := fr) (by rw [nI_clamp (by omega)]; exact hfr.symm) ?_
                  refine lv_aload_n hx hb d_La_law_663 rfl (lv_at hl 1 rfl) ?_
                  refine lv_iload hx hb d_La_law_664 (lv_at hl 5 rfl) ?_
                  refine lv_iconst (v := nI 4) hx hb d_La_law_666 (by decide +kernel) ?_
                  refine lv_iadd hx hb d_La_law_667 ?_
                  refine aw_ti (nI_add (6 * t) 4) ?_
                  refine va_sld hx hb hX hbl hbA hS (i := (nI ((6 * t) + 4))) (vp_in_nI (by omega) (by omega)) d_La_law_668 ?_
                  refine aw_ti (y := nI 0) (by rw [nI_clamp (by omega)]; exact hm0.symm) ?_
                  obtain ⟨_, he276⟩ := zr_M0 hSh
                  refine va_calli (va_runV (As := [.int (nI j), .int x275, .int fr, .int (nI 0)]) (rest := []) ⟨hx, hb, hml, hown, hG⟩ (k_Mo_feedXbV l D g ad N0 zG zO zX zY zA zB zM zI zL zK zN zF zQ j x275 fr (nI 0) hj hi) (aw_wV 4 hG gw_12_26 gw_12_23 gw_0_10 gw_12_24 gw_12_25 rfl rfl hd_Mo_feed ⟨Nat.le_of_ble_eq_true rfl, Nat.le_of_ble_eq_true rfl⟩) (ag_qV (va_recv hK hP rfl he276) hP hD hSh hU hS) rfl rfl hl.1 rfl (lv_room (Nat.le_of_ble_eq_true rfl)) d_La_law_669 ⟨by omega, by omega⟩) hS (fun _ _ h => h) (fun _ h => h) ?_
                  clear hP hD hSh hS he276
                  intro x277 u8 t8 H locs ht _ ex277 hB _ _ hS
                  obtain ⟨L, hP, hD, hSh⟩ := hB
                  rw [ht] at hP
                  clear ht
                  have ex277 := ex277.symm
                  refine lv_istore hx hb d_La_law_672 hl (by decide) rfl (fun ls hl => ?_)
                  have hl : lv_has ls 8 [(6, .int x277), (5, .int (nI 2)), (0, .ref b), (1, .ref (aw_r ad 0)), (2, .ref (aw_m ad 0)), (3, .ref (aw_o ad)), (4, .int (nI (6 * t)))] := hl
                  refine lv_goto (tgt := 853) hx hb d_La_law_674 (by decide) ?_
                  refine lv_iinc (k := 6) (v := nI (6 * t + 6)) hx hb d_La_law_853 hl rfl (aw_inc (6 * t) 6 6 (by decide +kernel)) (by decide) rfl (fun ls hl => ?_)
                  have hl : lv_has ls 8 [(4, .int (nI (6 * t + 6))), (6, .int x277), (5, .int (nI 2)), (0, .ref b), (1, .ref (aw_r ad 0)), (2, .ref (aw_m ad 0)), (3, .ref (aw_o ad))] := hl
                  refine lv_goto (tgt := 23) hx hb d_La_law_856 (by decide) ?_
                  have hl := lv_sub hl (l' := [(0, .ref b), (1, .ref (aw_r ad 0)), (2, .ref (aw_m ad 0)), (3, .ref (aw_o ad)), (4, .int (nI (6 * t + 6)))]) [3, 4, 5, 6, 0] rfl
                  refine W.widen (k := 85 + (t + 1)) (n := 1246 + 6 * (t + 1)) (by omega) (by omega) ?_
                  exact ih (t + 1) zG zO zX zY zA zB zM zI zL zK zN (nI 1) zQ _ _ L ls (by omega) hP hD hSh hR hS (by first | exact hl | simpa [Nat.mul_add] using hl)
                refine lv_if_eq (tgt := 656) hx hb d_La_law_649 (by decide) (fun h9 => ?_) (fun h9 => ?_)
                · refine lv_iconst (v := nI 0) hx hb d_La_law_656 (by decide +kernel) ?_
                  exact hj274 _ (if_pos h9)
                · refine lv_iconst (v := nI 1) hx hb d_La_law_652 (by decide +kernel) ?_
                  refine lv_goto (tgt := 657) hx hb d_La_law_653 (by decide) ?_
                  exact hj274 _ (if_neg h9)
              refine lv_if_eq (tgt := 617) hx hb d_La_law_610 (by decide) (fun h9 => ?_) (fun h9 => ?_)
              · refine lv_iconst (v := nI 0) hx hb d_La_law_617 (by decide +kernel) ?_
                exact hj271 _ (if_pos h9)
              · refine lv_iconst (v := nI 1) hx hb d_La_law_613 (by decide +kernel) ?_
                refine lv_goto (tgt := 618) hx hb d_La_law_614 (by decide) ?_
                exact hj271 _ (if_neg h9)
          · by_cases hs : (zG j).1 = 3
            · by_cases h5 : (zG j).2 = 5
              · refine lv_aload_n hx hb d_La_law_597 rfl (lv_at hl 1 rfl) ?_
                refine lv_aload_n hx hb d_La_law_598 rfl (lv_at hl 0 rfl) ?_
                refine lv_iload hx hb d_La_law_599 (lv_at hl 4 rfl) ?_
                refine lv_iconst (v := nI 1) hx hb d_La_law_601 (by decide +kernel) ?_
                refine lv_iadd hx hb d_La_law_602 ?_
                refine aw_ti (nI_add (6 * t) 1) ?_
                refine va_sld hx hb hX hbl hbA hS (i := (nI ((6 * t) + 1))) (vp_in_nI (by omega) (by omega)) d_La_law_603 ?_
                refine aw_ti (y := nI j) (by rw [nI_clamp (by omega)]; exact hc0.symm) ?_
                refine lv_aload_n hx hb d_La_law_604 rfl (lv_at hl 0 rfl) ?_
                refine lv_iload hx hb d_La_law_605 (lv_at hl 4 rfl) ?_
                refine lv_iconst (v := nI 2) hx hb d_La_law_607 (by decide +kernel) ?_
                refine lv_iadd hx hb d_La_law_608 ?_
                refine aw_ti (nI_add (6 * t) 2) ?_
                refine va_sld hx hb hX hbl hbA hS (i := (nI ((6 * t) + 2))) (vp_in_nI (by omega) (by omega)) d_La_law_609 ?_
                refine aw_ti (y := s2) (by rw [nI_clamp (by omega)]; exact hs2.symm) ?_
                have hj278 : ∀ x279 : Int32, (if s2 = 0 then nI 0 else nI 1) = x279 → W p l e room_1 s m #[Value.ref b] below meth c H locs (85 + t) (1246 + 6 * t) (lw_Z below #[Value.ref b] s) (F0 m 618 ls [.int x279, .int (nI j), .ref (aw_r ad 0)]) := by
                  intro x279 ebx279
                  refine lv_aload_n hx hb d_La_law_618 rfl (lv_at hl 0 rfl) ?_
                  refine lv_iload hx hb d_La_law_619 (lv_at hl 4 rfl) ?_
                  refine lv_iconst (v := nI 3) hx hb d_La_law_621 (by decide +kernel) ?_
                  refine lv_iadd hx hb d_La_law_622 ?_
                  refine aw_ti (nI_add (6 * t) 3) ?_
                  refine va_sld hx hb hX hbl hbA hS (i := (nI ((6 * t) + 3))) (vp_in_nI (by omega) (by omega)) d_La_law_623 ?_
                  refine aw_ti (y := nI k) (by rw [nI_clamp (by omega)]; exact hfr.symm) ?_
                  refine lv_aload_n hx hb d_La_law_624 rfl (lv_at hl 0 rfl) ?_
                  refine lv_iload hx hb d_La_law_625 (lv_at hl 4 rfl) ?_
                  refine lv_iconst (v := nI 4) hx hb d_La_law_627 (by decide +kernel) ?_
                  refine lv_iadd hx hb d_La_law_628 ?_
                  refine aw_ti (nI_add (6 * t) 4) ?_
                  refine va_sld hx hb hX hbl hbA hS (i := (nI ((6 * t) + 4))) (vp_in_nI (by omega) (by omega)) d_La_law_629 ?_
                  refine aw_ti (y := nI 0) (by rw [nI_clamp (by omega)]; exact hm0.symm) ?_
                  refine lv_aload_n hx hb d_La_law_630 rfl (lv_at hl 3 rfl) ?_
                  refine va_calli (vx_runSW (As := [.ref (aw_r ad 0), .int (nI j), .int x279, .int (nI k), .int (nI 0), .ref (aw_o ad)]) (rest := []) ⟨hx, hb, hml, hown, hG⟩ (k_La_feedXs0V l hst D g ad N0 zG zO zX zY zA zB zM zI zL zK zN zF zQ j x279 (nI k) hj (by omega)) (aw_wW 6 hG gw_7_42 gw_7_40 gw_0_0 gw_7_41 rfl rfl hd_La_feed ⟨Nat.le_of_ble_eq_true rfl, Nat.le_of_ble_eq_true rfl⟩) (ag_qS hP hD hSh hU hS) rfl rfl hl.1 rfl (lv_room (Nat.le_of_ble_eq_true rfl)) d_La_law_631 ⟨by omega, by omega⟩) hS (fun _ _ h => h) (fun _ h => h) ?_
                  clear hP hD hSh hS
                  intro x280 u8 t8 H locs ht _ ex280 hB _ _ hS
                  obtain ⟨L, hP, hD, hSh⟩ := hB
                  rw [ht] at hP
                  clear ht
                  subst ex280
                  refine lv_istore hx hb d_La_law_634 hl (by decide) rfl (fun ls hl => ?_)
                  have hl : lv_has ls 8 [(5, .int (nI 2)), (0, .ref b), (1, .ref (aw_r ad 0)), (2, .ref (aw_m ad 0)), (3, .ref (aw_o ad)), (4, .int (nI (6 * t)))] := hl
                  refine lv_aload_n hx hb d_La_law_636 rfl (lv_at hl 3 rfl) ?_
                  refine lv_aload_n hx hb d_La_law_637 rfl (lv_at hl 1 rfl) ?_
                  refine lv_iload hx hb d_La_law_638 (lv_at hl 5 rfl) ?_
                  refine lv_iconst (v := nI 1) hx hb d_La_law_640 (by decide +kernel) ?_
                  refine lv_iadd hx hb d_La_law_641 ?_
                  refine aw_ti (nI_add (6 * t) 1) ?_
                  refine va_sld hx hb hX hbl hbA hS (i := (nI ((6 * t) + 1))) (vp_in_nI (by omega) (by omega)) d_La_law_642 ?_
                  refine aw_ti (y := nI j) (by rw [nI_clamp (by omega)]; exact hc0.symm) ?_
                  refine lv_aload_n hx hb d_La_law_643 rfl (lv_at hl 1 rfl) ?_
                  refine lv_iload hx hb d_La_law_644 (lv_at hl 5 rfl) ?_
                  refine lv_iconst (v := nI 2) hx hb d_La_law_646 (by decide +kernel) ?_
                  refine lv_iadd hx hb d_La_law_647 ?_
                  refine aw_ti (nI_add (6 * t) 2) ?_
                  refine va_sld hx hb hX hbl hbA hS (i := (nI ((6 * t) + 2))) (vp_in_nI (by omega) (by omega)) d_La_law_648 ?_
                  refine aw_ti (y := s2) (by rw [nI_clamp (by omega)]; exact hs2.symm) ?_
                  have hj281 : ∀ x282 : Int32, (if s2 = 0 then nI 0 else nI 1) = x282 → W p l e room_1 s m #[Value.ref b] below meth c H locs ((85 + t) + 1) ((1246 + 6 * t) + 6) (lw_Z below #[Value.ref b] s) (F0 m 657 ls [.int x282, .int (nI j), .ref (aw_m ad 0)]) := by
                    intro x282 ebx282
                    refine lv_aload_n hx hb d_La_law_657 rfl (lv_at hl 1 rfl) ?_
                    refine lv_iload hx hb d_La_law_658 (lv_at hl 5 rfl) ?_
                    refine lv_iconst (v := nI 3) hx hb d_La_law_660 (by decide +kernel) ?_
                    refine lv_iadd hx hb d_La_law_661 ?_
                    refine aw_ti (nI_add (6 * t) 3) ?_
                    refine va_sld hx hb hX hbl hbA hS (i := (nI ((6 * t) + 3))) (vp_in_nI (by omega) (by omega)) d_La_law_662 ?_
                    refine aw_ti (y := nI k) (by rw [nI_clamp (by omega)]; exact hfr.symm) ?_
                    refine lv_aload_n hx hb d_La_law_663 rfl (lv_at hl 1 rfl) ?_
                    refine lv_iload hx hb d_La_law_664 (lv_at hl 5 rfl) ?_
                    refine lv_iconst (v := nI 4) hx hb d_La_law_666 (by decide +kernel) ?_
                    refine lv_iadd hx hb d_La_law_667 ?_
                    refine aw_ti (nI_add (6 * t) 4) ?_
                    refine va_sld hx hb hX hbl hbA hS (i := (nI ((6 * t) + 4))) (vp_in_nI (by omega) (by omega)) d_La_law_668 ?_
                    refine aw_ti (y := nI 0) (by rw [nI_clamp (by omega)]; exact hm0.symm) ?_
                    obtain ⟨_, he283⟩ := zr_M0 hSh
                    refine va_calli (va_runV (As := [.int (nI j), .int x282, .int (nI k), .int (nI 0)]) (rest := []) ⟨hx, hb, hml, hown, hG⟩ (k_Mo_feedXsV l D g ad N0 zG zO zX zY zA zB zM zI zL zK zN zF zQ j x282 k 0 hj (by omega) (by omega)) (aw_wV 4 hG gw_12_26 gw_12_23 gw_0_10 gw_12_24 gw_12_25 rfl rfl hd_Mo_feed ⟨Nat.le_of_ble_eq_true rfl, Nat.le_of_ble_eq_true rfl⟩) (ag_qV (va_recv hK hP rfl he283) hP hD hSh hU hS) rfl rfl hl.1 rfl (lv_room (Nat.le_of_ble_eq_true rfl)) d_La_law_669 ⟨by omega, by omega⟩) hS (fun _ _ h => h) (fun _ h => h) ?_
                    clear hP hD hSh hS he283
                    intro x284 u8 t8 H locs ht _ ex284 hB _ _ hS
                    obtain ⟨L, hP, hD, hSh⟩ := hB
                    rw [ht] at hP
                    clear ht
                    have ex284 := ex284.symm
                    refine lv_istore hx hb d_La_law_672 hl (by decide) rfl (fun ls hl => ?_)
                    have hl : lv_has ls 8 [(6, .int x284), (5, .int (nI 2)), (0, .ref b), (1, .ref (aw_r ad 0)), (2, .ref (aw_m ad 0)), (3, .ref (aw_o ad)), (4, .int (nI (6 * t)))] := hl
                    refine lv_goto (tgt := 853) hx hb d_La_law_674 (by decide) ?_
                    refine lv_iinc (k := 6) (v := nI (6 * t + 6)) hx hb d_La_law_853 hl rfl (aw_inc (6 * t) 6 6 (by decide +kernel)) (by decide) rfl (fun ls hl => ?_)
                    have hl : lv_has ls 8 [(4, .int (nI (6 * t + 6))), (6, .int x284), (5, .int (nI 2)), (0, .ref b), (1, .ref (aw_r ad 0)), (2, .ref (aw_m ad 0)), (3, .ref (aw_o ad))] := hl
                    refine lv_goto (tgt := 23) hx hb d_La_law_856 (by decide) ?_
                    have hl := lv_sub hl (l' := [(0, .ref b), (1, .ref (aw_r ad 0)), (2, .ref (aw_m ad 0)), (3, .ref (aw_o ad)), (4, .int (nI (6 * t + 6)))]) [3, 4, 5, 6, 0] rfl
                    refine W.widen (k := 85 + (t + 1)) (n := 1246 + 6 * (t + 1)) (by omega) (by omega) ?_
                    exact ih (t + 1) zG zO zX zY zA zB zM zI zL zK zN (nI 2) zQ _ _ L ls (by omega) hP hD hSh hR hS (by first | exact hl | simpa [Nat.mul_add] using hl)
                  refine lv_if_eq (tgt := 656) hx hb d_La_law_649 (by decide) (fun h9 => ?_) (fun h9 => ?_)
                  · refine lv_iconst (v := nI 0) hx hb d_La_law_656 (by decide +kernel) ?_
                    exact hj281 _ (if_pos h9)
                  · refine lv_iconst (v := nI 1) hx hb d_La_law_652 (by decide +kernel) ?_
                    refine lv_goto (tgt := 657) hx hb d_La_law_653 (by decide) ?_
                    exact hj281 _ (if_neg h9)
                refine lv_if_eq (tgt := 617) hx hb d_La_law_610 (by decide) (fun h9 => ?_) (fun h9 => ?_)
                · refine lv_iconst (v := nI 0) hx hb d_La_law_617 (by decide +kernel) ?_
                  exact hj278 _ (if_pos h9)
                · refine lv_iconst (v := nI 1) hx hb d_La_law_613 (by decide +kernel) ?_
                  refine lv_goto (tgt := 618) hx hb d_La_law_614 (by decide) ?_
                  exact hj278 _ (if_neg h9)
              · by_cases hm : (zG j).2 ≤ 1
                · obtain ⟨kc, hkc, hci, hco⟩ := hR.2.1 j hj (by omega)
                  refine lv_aload_n hx hb d_La_law_597 rfl (lv_at hl 1 rfl) ?_
                  refine lv_aload_n hx hb d_La_law_598 rfl (lv_at hl 0 rfl) ?_
                  refine lv_iload hx hb d_La_law_599 (lv_at hl 4 rfl) ?_
                  refine lv_iconst (v := nI 1) hx hb d_La_law_601 (by decide +kernel) ?_
                  refine lv_iadd hx hb d_La_law_602 ?_
                  refine aw_ti (nI_add (6 * t) 1) ?_
                  refine va_sld hx hb hX hbl hbA hS (i := (nI ((6 * t) + 1))) (vp_in_nI (by omega) (by omega)) d_La_law_603 ?_
                  refine aw_ti (y := nI j) (by rw [nI_clamp (by omega)]; exact hc0.symm) ?_
                  refine lv_aload_n hx hb d_La_law_604 rfl (lv_at hl 0 rfl) ?_
                  refine lv_iload hx hb d_La_law_605 (lv_at hl 4 rfl) ?_
                  refine lv_iconst (v := nI 2) hx hb d_La_law_607 (by decide +kernel) ?_
                  refine lv_iadd hx hb d_La_law_608 ?_
                  refine aw_ti (nI_add (6 * t) 2) ?_
                  refine va_sld hx hb hX hbl hbA hS (i := (nI ((6 * t) + 2))) (vp_in_nI (by omega) (by omega)) d_La_law_609 ?_
                  refine aw_ti (y := s2) (by rw [nI_clamp (by omega)]; exact hs2.symm) ?_
                  have hj285 : ∀ x286 : Int32, (if s2 = 0 then nI 0 else nI 1) = x286 → W p l e room_1 s m #[Value.ref b] below meth c H locs (85 + t) (1246 + 6 * t) (lw_Z below #[Value.ref b] s) (F0 m 618 ls [.int x286, .int (nI j), .ref (aw_r ad 0)]) := by
                    intro x286 ebx286
                    refine lv_aload_n hx hb d_La_law_618 rfl (lv_at hl 0 rfl) ?_
                    refine lv_iload hx hb d_La_law_619 (lv_at hl 4 rfl) ?_
                    refine lv_iconst (v := nI 3) hx hb d_La_law_621 (by decide +kernel) ?_
                    refine lv_iadd hx hb d_La_law_622 ?_
                    refine aw_ti (nI_add (6 * t) 3) ?_
                    refine va_sld hx hb hX hbl hbA hS (i := (nI ((6 * t) + 3))) (vp_in_nI (by omega) (by omega)) d_La_law_623 ?_
                    refine aw_ti (y := nI k) (by rw [nI_clamp (by omega)]; exact hfr.symm) ?_
                    refine lv_aload_n hx hb d_La_law_624 rfl (lv_at hl 0 rfl) ?_
                    refine lv_iload hx hb d_La_law_625 (lv_at hl 4 rfl) ?_
                    refine lv_iconst (v := nI 4) hx hb d_La_law_627 (by decide +kernel) ?_
                    refine lv_iadd hx hb d_La_law_628 ?_
                    refine aw_ti (nI_add (6 * t) 4) ?_
                    refine va_sld hx hb hX hbl hbA hS (i := (nI ((6 * t) + 4))) (vp_in_nI (by omega) (by omega)) d_La_law_629 ?_
                    refine aw_ti (y := nI 0) (by rw [nI_clamp (by omega)]; exact hm0.symm) ?_
                    refine lv_aload_n hx hb d_La_law_630 rfl (lv_at hl 3 rfl) ?_
                    refine va_calli (vx_runSW (As := [.ref (aw_r ad 0), .int (nI j), .int x286, .int (nI k), .int (nI 0), .ref (aw_o ad)]) (rest := []) ⟨hx, hb, hml, hown, hG⟩ (k_La_feed10bV l hst D g ad N0 zG zO zX zY zA zB zM zI zL zK zN zF zQ j x286 (nI k) hj (by omega) (by omega)) (aw_wW 6 hG gw_7_42 gw_7_40 gw_0_0 gw_7_41 rfl rfl hd_La_feed ⟨Nat.le_of_ble_eq_true rfl, Nat.le_of_ble_eq_true rfl⟩) (ag_qS hP hD hSh hU hS) rfl rfl hl.1 rfl (lv_room (Nat.le_of_ble_eq_true rfl)) d_La_law_631 ⟨by omega, by omega⟩) hS (fun _ _ h => h) (fun _ h => h) ?_
                    clear hP hD hSh hS
                    intro x287 u8 t8 H locs ht _ ex287 hB _ _ hS
                    obtain ⟨L, hP, hD, hSh⟩ := hB
                    rw [ht] at hP
                    clear ht
                    subst ex287
                    obtain ⟨zY288, ezY288⟩ : ∃ z : Nat → Nat → Int32, v_La_feed10bV_zY zY j = z := ⟨_, rfl⟩
                    rw [ezY288] at hSh
                    obtain ⟨zQ289, ezQ289⟩ : ∃ z : Int64, v_La_feed10bV_zQ zY j = z := ⟨_, rfl⟩
                    rw [ezQ289] at hSh
                    refine lv_istore hx hb d_La_law_634 hl (by decide) rfl (fun ls hl => ?_)
                    have hl : lv_has ls 8 [(5, .int (nI 0)), (0, .ref b), (1, .ref (aw_r ad 0)), (2, .ref (aw_m ad 0)), (3, .ref (aw_o ad)), (4, .int (nI (6 * t)))] := hl
                    refine lv_aload_n hx hb d_La_law_636 rfl (lv_at hl 3 rfl) ?_
                    refine lv_aload_n hx hb d_La_law_637 rfl (lv_at hl 1 rfl) ?_
                    refine lv_iload hx hb d_La_law_638 (lv_at hl 5 rfl) ?_
                    refine lv_iconst (v := nI 1) hx hb d_La_law_640 (by decide +kernel) ?_
                    refine lv_iadd hx hb d_La_law_641 ?_
                    refine aw_ti (nI_add (6 * t) 1) ?_
                    refine va_sld hx hb hX hbl hbA hS (i := (nI ((6 * t) + 1))) (vp_in_nI (by omega) (by omega)) d_La_law_642 ?_
                    refine aw_ti (y := nI j) (by rw [nI_clamp (by omega)]; exact hc0.symm) ?_
                    refine lv_aload_n hx hb d_La_law_643 rfl (lv_at hl 1 rfl) ?_
                    refine lv_iload hx hb d_La_law_644 (lv_at hl 5 rfl) ?_
                    refine lv_iconst (v := nI 2) hx hb d_La_law_646 (by decide +kernel) ?_
                    refine lv_iadd hx hb d_La_law_647 ?_
                    refine aw_ti (nI_add (6 * t) 2) ?_
                    refine va_sld hx hb hX hbl hbA hS (i := (nI ((6 * t) + 2))) (vp_in_nI (by omega) (by omega)) d_La_law_648 ?_
                    refine aw_ti (y := s2) (by rw [nI_clamp (by omega)]; exact hs2.symm) ?_
                    have hj290 : ∀ x291 : Int32, (if s2 = 0 then nI 0 else nI 1) = x291 → W p l e room_1 s m #[Value.ref b] below meth c H locs ((85 + t) + 1) ((1246 + 6 * t) + 6) (lw_Z below #[Value.ref b] s) (F0 m 657 ls [.int x291, .int (nI j), .ref (aw_m ad 0)]) := by
                      intro x291 ebx291
                      refine lv_aload_n hx hb d_La_law_657 rfl (lv_at hl 1 rfl) ?_
                      refine lv_iload hx hb d_La_law_658 (lv_at hl 5 rfl) ?_
                      refine lv_iconst (v := nI 3) hx hb d_La_law_660 (by decide +kernel) ?_
                      refine lv_iadd hx hb d_La_law_661 ?_
                      refine aw_ti (nI_add (6 * t) 3) ?_
                      refine va_sld hx hb hX hbl hbA hS (i := (nI ((6 * t) + 3))) (vp_in_nI (by omega) (by omega)) d_La_law_662 ?_
                      refine aw_ti (y := nI k) (by rw [nI_clamp (by omega)]; exact hfr.symm) ?_
                      refine lv_aload_n hx hb d_La_law_663 rfl (lv_at hl 1 rfl) ?_
                      refine lv_iload hx hb d_La_law_664 (lv_at hl 5 rfl) ?_
                      refine lv_iconst (v := nI 4) hx hb d_La_law_666 (by decide +kernel) ?_
                      refine lv_iadd hx hb d_La_law_667 ?_
                      refine aw_ti (nI_add (6 * t) 4) ?_
                      refine va_sld hx hb hX hbl hbA hS (i := (nI ((6 * t) + 4))) (vp_in_nI (by omega) (by omega)) d_La_law_668 ?_
                      refine aw_ti (y := nI 0) (by rw [nI_clamp (by omega)]; exact hm0.symm) ?_
                      obtain ⟨_, he292⟩ := zr_M0 hSh
                      refine va_calli (va_runV (As := [.int (nI j), .int x291, .int (nI k), .int (nI 0)]) (rest := []) ⟨hx, hb, hml, hown, hG⟩ (k_Mo_feed8V l D g ad N0 zG zO zX zY288 zA zB zM zI zL zK zN zF zQ289 j kc x291 k 0 hj (by omega) (by omega) (by omega) (by omega) hkc hci) (aw_wV 4 hG gw_12_26 gw_12_23 gw_0_10 gw_12_24 gw_12_25 rfl rfl hd_Mo_feed ⟨Nat.le_of_ble_eq_true rfl, Nat.le_of_ble_eq_true rfl⟩) (ag_qV (va_recv hK hP rfl he292) hP hD hSh hU hS) rfl rfl hl.1 rfl (lv_room (Nat.le_of_ble_eq_true rfl)) d_La_law_669 ⟨by omega, by omega⟩) hS (fun _ _ h => h) (fun _ h => h) ?_
                      clear hP hD hSh hS he292
                      intro x293 u8 t8 H locs ht _ ex293 hB _ _ hS
                      obtain ⟨L, hP, hD, hSh⟩ := hB
                      rw [ht] at hP
                      clear ht
                      obtain ⟨zI294, ezI294⟩ : ∃ z : Nat → Nat → Int32, v_Mo_feed8V_zI zM zI zL j kc x291 k 0 = z := ⟨_, rfl⟩
                      rw [ezI294] at hSh
                      obtain ⟨zL295, ezL295⟩ : ∃ z : Nat → Nat → Int64, v_Mo_feed8V_zL zM zI zL j kc x291 k 0 = z := ⟨_, rfl⟩
                      rw [ezL295] at hSh
                      have ex293 := ex293.symm
                      refine lv_istore hx hb d_La_law_672 hl (by decide) rfl (fun ls hl => ?_)
                      have hl : lv_has ls 8 [(6, .int x293), (5, .int (nI 0)), (0, .ref b), (1, .ref (aw_r ad 0)), (2, .ref (aw_m ad 0)), (3, .ref (aw_o ad)), (4, .int (nI (6 * t)))] := hl
                      refine lv_goto (tgt := 853) hx hb d_La_law_674 (by decide) ?_
                      refine lv_iinc (k := 6) (v := nI (6 * t + 6)) hx hb d_La_law_853 hl rfl (aw_inc (6 * t) 6 6 (by decide +kernel)) (by decide) rfl (fun ls hl => ?_)
                      have hl : lv_has ls 8 [(4, .int (nI (6 * t + 6))), (6, .int x293), (5, .int (nI 0)), (0, .ref b), (1, .ref (aw_r ad 0)), (2, .ref (aw_m ad 0)), (3, .ref (aw_o ad))] := hl
                      refine lv_goto (tgt := 23) hx hb d_La_law_856 (by decide) ?_
                      have hl := lv_sub hl (l' := [(0, .ref b), (1, .ref (aw_r ad 0)), (2, .ref (aw_m ad 0)), (3, .ref (aw_o ad)), (4, .int (nI (6 * t + 6)))]) [3, 4, 5, 6, 0] rfl
                      refine W.widen (k := 85 + (t + 1)) (n := 1246 + 6 * (t + 1)) (by omega) (by omega) ?_
                      have hR : az_R zG zO zX zY288 zA zB zM zI294 zL295 := by
                        subst ex293 ezL295 ezI294 ebx291 ezQ289 ezY288 ebx286
                        exact r_feed10b_8 hR hj hs hm hk hkc hci hco
                      exact ih (t + 1) zG zO zX zY288 zA zB zM zI294 zL295 (nI kc) (az_wn kc) (nI 0) zQ289 _ _ L ls (by omega) hP hD hSh hR hS (by first | exact hl | simpa [Nat.mul_add] using hl)
                    refine lv_if_eq (tgt := 656) hx hb d_La_law_649 (by decide) (fun h9 => ?_) (fun h9 => ?_)
                    · refine lv_iconst (v := nI 0) hx hb d_La_law_656 (by decide +kernel) ?_
                      exact hj290 _ (if_pos h9)
                    · refine lv_iconst (v := nI 1) hx hb d_La_law_652 (by decide +kernel) ?_
                      refine lv_goto (tgt := 657) hx hb d_La_law_653 (by decide) ?_
                      exact hj290 _ (if_neg h9)
                  refine lv_if_eq (tgt := 617) hx hb d_La_law_610 (by decide) (fun h9 => ?_) (fun h9 => ?_)
                  · refine lv_iconst (v := nI 0) hx hb d_La_law_617 (by decide +kernel) ?_
                    exact hj285 _ (if_pos h9)
                  · refine lv_iconst (v := nI 1) hx hb d_La_law_613 (by decide +kernel) ?_
                    refine lv_goto (tgt := 618) hx hb d_La_law_614 (by decide) ?_
                    exact hj285 _ (if_neg h9)
                · obtain ⟨kc, hkc, hci, hco⟩ := hR.2.1 j hj (by omega)
                  refine lv_aload_n hx hb d_La_law_597 rfl (lv_at hl 1 rfl) ?_
                  refine lv_aload_n hx hb d_La_law_598 rfl (lv_at hl 0 rfl) ?_
                  refine lv_iload hx hb d_La_law_599 (lv_at hl 4 rfl) ?_
                  refine lv_iconst (v := nI 1) hx hb d_La_law_601 (by decide +kernel) ?_
                  refine lv_iadd hx hb d_La_law_602 ?_
                  refine aw_ti (nI_add (6 * t) 1) ?_
                  refine va_sld hx hb hX hbl hbA hS (i := (nI ((6 * t) + 1))) (vp_in_nI (by omega) (by omega)) d_La_law_603 ?_
                  refine aw_ti (y := nI j) (by rw [nI_clamp (by omega)]; exact hc0.symm) ?_
                  refine lv_aload_n hx hb d_La_law_604 rfl (lv_at hl 0 rfl) ?_
                  refine lv_iload hx hb d_La_law_605 (lv_at hl 4 rfl) ?_
                  refine lv_iconst (v := nI 2) hx hb d_La_law_607 (by decide +kernel) ?_
                  refine lv_iadd hx hb d_La_law_608 ?_
                  refine aw_ti (nI_add (6 * t) 2) ?_
                  refine va_sld hx hb hX hbl hbA hS (i := (nI ((6 * t) + 2))) (vp_in_nI (by omega) (by omega)) d_La_law_609 ?_
                  refine aw_ti (y := s2) (by rw [nI_clamp (by omega)]; exact hs2.symm) ?_
                  have hj296 : ∀ x297 : Int32, (if s2 = 0 then nI 0 else nI 1) = x297 → W p l e room_1 s m #[Value.ref b] below meth c H locs (85 + t) (1246 + 6 * t) (lw_Z below #[Value.ref b] s) (F0 m 618 ls [.int x297, .int (nI j), .ref (aw_r ad 0)]) := by
                    intro x297 ebx297
                    refine lv_aload_n hx hb d_La_law_618 rfl (lv_at hl 0 rfl) ?_
                    refine lv_iload hx hb d_La_law_619 (lv_at hl 4 rfl) ?_
                    refine lv_iconst (v := nI 3) hx hb d_La_law_621 (by decide +kernel) ?_
                    refine lv_iadd hx hb d_La_law_622 ?_
                    refine aw_ti (nI_add (6 * t) 3) ?_
                    refine va_sld hx hb hX hbl hbA hS (i := (nI ((6 * t) + 3))) (vp_in_nI (by omega) (by omega)) d_La_law_623 ?_
                    refine aw_ti (y := nI k) (by rw [nI_clamp (by omega)]; exact hfr.symm) ?_
                    refine lv_aload_n hx hb d_La_law_624 rfl (lv_at hl 0 rfl) ?_
                    refine lv_iload hx hb d_La_law_625 (lv_at hl 4 rfl) ?_
                    refine lv_iconst (v := nI 4) hx hb d_La_law_627 (by decide +kernel) ?_
                    refine lv_iadd hx hb d_La_law_628 ?_
                    refine aw_ti (nI_add (6 * t) 4) ?_
                    refine va_sld hx hb hX hbl hbA hS (i := (nI ((6 * t) + 4))) (vp_in_nI (by omega) (by omega)) d_La_law_629 ?_
                    refine aw_ti (y := nI 0) (by rw [nI_clamp (by omega)]; exact hm0.symm) ?_
                    refine lv_aload_n hx hb d_La_law_630 rfl (lv_at hl 3 rfl) ?_
                    refine va_calli (vx_runSW (As := [.ref (aw_r ad 0), .int (nI j), .int x297, .int (nI k), .int (nI 0), .ref (aw_o ad)]) (rest := []) ⟨hx, hb, hml, hown, hG⟩ (k_La_feed10V l hst D g ad N0 zG zO zX zY zA zB zM zI zL zK zN zF zQ j x297 (nI k) hj (by omega) (by omega) (by omega)) (aw_wW 6 hG gw_7_42 gw_7_40 gw_0_0 gw_7_41 rfl rfl hd_La_feed ⟨Nat.le_of_ble_eq_true rfl, Nat.le_of_ble_eq_true rfl⟩) (ag_qS hP hD hSh hU hS) rfl rfl hl.1 rfl (lv_room (Nat.le_of_ble_eq_true rfl)) d_La_law_631 ⟨by omega, by omega⟩) hS (fun _ _ h => h) (fun _ h => h) ?_
                    clear hP hD hSh hS
                    intro x298 u8 t8 H locs ht _ ex298 hB _ _ hS
                    obtain ⟨L, hP, hD, hSh⟩ := hB
                    rw [ht] at hP
                    clear ht
                    subst ex298
                    obtain ⟨zY299, ezY299⟩ : ∃ z : Nat → Nat → Int32, v_La_feed10V_zY zY j = z := ⟨_, rfl⟩
                    rw [ezY299] at hSh
                    obtain ⟨zQ300, ezQ300⟩ : ∃ z : Int64, v_La_feed10V_zQ zY j = z := ⟨_, rfl⟩
                    rw [ezQ300] at hSh
                    refine lv_istore hx hb d_La_law_634 hl (by decide) rfl (fun ls hl => ?_)
                    have hl : lv_has ls 8 [(5, .int (nI 0)), (0, .ref b), (1, .ref (aw_r ad 0)), (2, .ref (aw_m ad 0)), (3, .ref (aw_o ad)), (4, .int (nI (6 * t)))] := hl
                    refine lv_aload_n hx hb d_La_law_636 rfl (lv_at hl 3 rfl) ?_
                    refine lv_aload_n hx hb d_La_law_637 rfl (lv_at hl 1 rfl) ?_
                    refine lv_iload hx hb d_La_law_638 (lv_at hl 5 rfl) ?_
                    refine lv_iconst (v := nI 1) hx hb d_La_law_640 (by decide +kernel) ?_
                    refine lv_iadd hx hb d_La_law_641 ?_
                    refine aw_ti (nI_add (6 * t) 1) ?_
                    refine va_sld hx hb hX hbl hbA hS (i := (nI ((6 * t) + 1))) (vp_in_nI (by omega) (by omega)) d_La_law_642 ?_
                    refine aw_ti (y := nI j) (by rw [nI_clamp (by omega)]; exact hc0.symm) ?_
                    refine lv_aload_n hx hb d_La_law_643 rfl (lv_at hl 1 rfl) ?_
                    refine lv_iload hx hb d_La_law_644 (lv_at hl 5 rfl) ?_
                    refine lv_iconst (v := nI 2) hx hb d_La_law_646 (by decide +kernel) ?_
                    refine lv_iadd hx hb d_La_law_647 ?_
                    refine aw_ti (nI_add (6 * t) 2) ?_
                    refine va_sld hx hb hX hbl hbA hS (i := (nI ((6 * t) + 2))) (vp_in_nI (by omega) (by omega)) d_La_law_648 ?_
                    refine aw_ti (y := s2) (by rw [nI_clamp (by omega)]; exact hs2.symm) ?_
                    have hj301 : ∀ x302 : Int32, (if s2 = 0 then nI 0 else nI 1) = x302 → W p l e room_1 s m #[Value.ref b] below meth c H locs ((85 + t) + 1) ((1246 + 6 * t) + 6) (lw_Z below #[Value.ref b] s) (F0 m 657 ls [.int x302, .int (nI j), .ref (aw_m ad 0)]) := by
                      intro x302 ebx302
                      refine lv_aload_n hx hb d_La_law_657 rfl (lv_at hl 1 rfl) ?_
                      refine lv_iload hx hb d_La_law_658 (lv_at hl 5 rfl) ?_
                      refine lv_iconst (v := nI 3) hx hb d_La_law_660 (by decide +kernel) ?_
                      refine lv_iadd hx hb d_La_law_661 ?_
                      refine aw_ti (nI_add (6 * t) 3) ?_
                      refine va_sld hx hb hX hbl hbA hS (i := (nI ((6 * t) + 3))) (vp_in_nI (by omega) (by omega)) d_La_law_662 ?_
                      refine aw_ti (y := nI k) (by rw [nI_clamp (by omega)]; exact hfr.symm) ?_
                      refine lv_aload_n hx hb d_La_law_663 rfl (lv_at hl 1 rfl) ?_
                      refine lv_iload hx hb d_La_law_664 (lv_at hl 5 rfl) ?_
                      refine lv_iconst (v := nI 4) hx hb d_La_law_666 (by decide +kernel) ?_
                      refine lv_iadd hx hb d_La_law_667 ?_
                      refine aw_ti (nI_add (6 * t) 4) ?_
                      refine va_sld hx hb hX hbl hbA hS (i := (nI ((6 * t) + 4))) (vp_in_nI (by omega) (by omega)) d_La_law_668 ?_
                      refine aw_ti (y := nI 0) (by rw [nI_clamp (by omega)]; exact hm0.symm) ?_
                      obtain ⟨_, he303⟩ := zr_M0 hSh
                      refine va_calli (va_runV (As := [.int (nI j), .int x302, .int (nI k), .int (nI 0)]) (rest := []) ⟨hx, hb, hml, hown, hG⟩ (k_Mo_feed1V l D g ad N0 zG zO zX zY299 zA zB zM zI zL zK zN zF zQ300 j kc x302 k 0 hj (by omega) (by omega) (by omega) (by omega) hkc hci) (aw_wV 4 hG gw_12_26 gw_12_23 gw_0_10 gw_12_24 gw_12_25 rfl rfl hd_Mo_feed ⟨Nat.le_of_ble_eq_true rfl, Nat.le_of_ble_eq_true rfl⟩) (ag_qV (va_recv hK hP rfl he303) hP hD hSh hU hS) rfl rfl hl.1 rfl (lv_room (Nat.le_of_ble_eq_true rfl)) d_La_law_669 ⟨by omega, by omega⟩) hS (fun _ _ h => h) (fun _ h => h) ?_
                      clear hP hD hSh hS he303
                      intro x304 u8 t8 H locs ht _ ex304 hB _ _ hS
                      obtain ⟨L, hP, hD, hSh⟩ := hB
                      rw [ht] at hP
                      clear ht
                      obtain ⟨zI305, ezI305⟩ : ∃ z : Nat → Nat → Int32, v_Mo_feed1V_zI zM zI zL j kc x302 k 0 = z := ⟨_, rfl⟩
                      rw [ezI305] at hSh
                      obtain ⟨zL306, ezL306⟩ : ∃ z : Nat → Nat → Int64, v_Mo_feed1V_zL zM zI zL j kc x302 k 0 = z := ⟨_, rfl⟩
                      rw [ezL306] at hSh
                      have ex304 := ex304.symm
                      refine lv_istore hx hb d_La_law_672 hl (by decide) rfl (fun ls hl => ?_)
                      have hl : lv_has ls 8 [(6, .int x304), (5, .int (nI 0)), (0, .ref b), (1, .ref (aw_r ad 0)), (2, .ref (aw_m ad 0)), (3, .ref (aw_o ad)), (4, .int (nI (6 * t)))] := hl
                      refine lv_goto (tgt := 853) hx hb d_La_law_674 (by decide) ?_
                      refine lv_iinc (k := 6) (v := nI (6 * t + 6)) hx hb d_La_law_853 hl rfl (aw_inc (6 * t) 6 6 (by decide +kernel)) (by decide) rfl (fun ls hl => ?_)
                      have hl : lv_has ls 8 [(4, .int (nI (6 * t + 6))), (6, .int x304), (5, .int (nI 0)), (0, .ref b), (1, .ref (aw_r ad 0)), (2, .ref (aw_m ad 0)), (3, .ref (aw_o ad))] := hl
                      refine lv_goto (tgt := 23) hx hb d_La_law_856 (by decide) ?_
                      have hl := lv_sub hl (l' := [(0, .ref b), (1, .ref (aw_r ad 0)), (2, .ref (aw_m ad 0)), (3, .ref (aw_o ad)), (4, .int (nI (6 * t + 6)))]) [3, 4, 5, 6, 0] rfl
                      refine W.widen (k := 85 + (t + 1)) (n := 1246 + 6 * (t + 1)) (by omega) (by omega) ?_
                      have hR : az_R zG zO zX zY299 zA zB zM zI305 zL306 := by
                        subst ex304 ezL306 ezI305 ebx302 ezQ300 ezY299 ebx297
                        exact r_feed10_1 hR hj hs (by omega) (by omega) hk hkc hci hco
                      exact ih (t + 1) zG zO zX zY299 zA zB zM zI305 zL306 (nI kc) (az_wn kc) (nI 0) zQ300 _ _ L ls (by omega) hP hD hSh hR hS (by first | exact hl | simpa [Nat.mul_add] using hl)
                    refine lv_if_eq (tgt := 656) hx hb d_La_law_649 (by decide) (fun h9 => ?_) (fun h9 => ?_)
                    · refine lv_iconst (v := nI 0) hx hb d_La_law_656 (by decide +kernel) ?_
                      exact hj301 _ (if_pos h9)
                    · refine lv_iconst (v := nI 1) hx hb d_La_law_652 (by decide +kernel) ?_
                      refine lv_goto (tgt := 657) hx hb d_La_law_653 (by decide) ?_
                      exact hj301 _ (if_neg h9)
                  refine lv_if_eq (tgt := 617) hx hb d_La_law_610 (by decide) (fun h9 => ?_) (fun h9 => ?_)
                  · refine lv_iconst (v := nI 0) hx hb d_La_law_617 (by decide +kernel) ?_
                    exact hj296 _ (if_pos h9)
                  · refine lv_iconst (v := nI 1) hx hb d_La_law_613 (by decide +kernel) ?_
                    refine lv_goto (tgt := 618) hx hb d_La_law_614 (by decide) ?_
                    exact hj296 _ (if_neg h9)
            · refine lv_aload_n hx hb d_La_law_597 rfl (lv_at hl 1 rfl) ?_
              refine lv_aload_n hx hb d_La_law_598 rfl (lv_at hl 0 rfl) ?_
              refine lv_iload hx hb d_La_law_599 (lv_at hl 4 rfl) ?_
              refine lv_iconst (v := nI 1) hx hb d_La_law_601 (by decide +kernel) ?_
              refine lv_iadd hx hb d_La_law_602 ?_
              refine aw_ti (nI_add (6 * t) 1) ?_
              refine va_sld hx hb hX hbl hbA hS (i := (nI ((6 * t) + 1))) (vp_in_nI (by omega) (by omega)) d_La_law_603 ?_
              refine aw_ti (y := nI j) (by rw [nI_clamp (by omega)]; exact hc0.symm) ?_
              refine lv_aload_n hx hb d_La_law_604 rfl (lv_at hl 0 rfl) ?_
              refine lv_iload hx hb d_La_law_605 (lv_at hl 4 rfl) ?_
              refine lv_iconst (v := nI 2) hx hb d_La_law_607 (by decide +kernel) ?_
              refine lv_iadd hx hb d_La_law_608 ?_
              refine aw_ti (nI_add (6 * t) 2) ?_
              refine va_sld hx hb hX hbl hbA hS (i := (nI ((6 * t) + 2))) (vp_in_nI (by omega) (by omega)) d_La_law_609 ?_
              refine aw_ti (y := s2) (by rw [nI_clamp (by omega)]; exact hs2.symm) ?_
              have hj307 : ∀ x308 : Int32, (if s2 = 0 then nI 0 else nI 1) = x308 → W p l e room_1 s m #[Value.ref b] below meth c H locs (85 + t) (1246 + 6 * t) (lw_Z below #[Value.ref b] s) (F0 m 618 ls [.int x308, .int (nI j), .ref (aw_r ad 0)]) := by
                intro x308 ebx308
                refine lv_aload_n hx hb d_La_law_618 rfl (lv_at hl 0 rfl) ?_
                refine lv_iload hx hb d_La_law_619 (lv_at hl 4 rfl) ?_
                refine lv_iconst (v := nI 3) hx hb d_La_law_621 (by decide +kernel) ?_
                refine lv_iadd hx hb d_La_law_622 ?_
                refine aw_ti (nI_add (6 * t) 3) ?_
                refine va_sld hx hb hX hbl hbA hS (i := (nI ((6 * t) + 3))) (vp_in_nI (by omega) (by omega)) d_La_law_623 ?_
                refine aw_ti (y := nI k) (by rw [nI_clamp (by omega)]; exact hfr.symm) ?_
                refine lv_aload_n hx hb d_La_law_624 rfl (lv_at hl 0 rfl) ?_
                refine lv_iload hx hb d_La_law_625 (lv_at hl 4 rfl) ?_
                refine lv_iconst (v := nI 4) hx hb d_La_law_627 (by decide +kernel) ?_
                refine lv_iadd hx hb d_La_law_628 ?_
                refine aw_ti (nI_add (6 * t) 4) ?_
                refine va_sld hx hb hX hbl hbA hS (i := (nI ((6 * t) + 4))) (vp_in_nI (by omega) (by omega)) d_La_law_629 ?_
                refine aw_ti (y := nI 0) (by rw [nI_clamp (by omega)]; exact hm0.symm) ?_
                refine lv_aload_n hx hb d_La_law_630 rfl (lv_at hl 3 rfl) ?_
                refine va_calli (vx_runSW (As := [.ref (aw_r ad 0), .int (nI j), .int x308, .int (nI k), .int (nI 0), .ref (aw_o ad)]) (rest := []) ⟨hx, hb, hml, hown, hG⟩ (k_La_feedXs0V l hst D g ad N0 zG zO zX zY zA zB zM zI zL zK zN zF zQ j x308 (nI k) hj (by omega)) (aw_wW 6 hG gw_7_42 gw_7_40 gw_0_0 gw_7_41 rfl rfl hd_La_feed ⟨Nat.le_of_ble_eq_true rfl, Nat.le_of_ble_eq_true rfl⟩) (ag_qS hP hD hSh hU hS) rfl rfl hl.1 rfl (lv_room (Nat.le_of_ble_eq_true rfl)) d_La_law_631 ⟨by omega, by omega⟩) hS (fun _ _ h => h) (fun _ h => h) ?_
                clear hP hD hSh hS
                intro x309 u8 t8 H locs ht _ ex309 hB _ _ hS
                obtain ⟨L, hP, hD, hSh⟩ := hB
                rw [ht] at hP
                clear ht
                subst ex309
                refine lv_istore hx hb d_La_law_634 hl (by decide) rfl (fun ls hl => ?_)
                have hl : lv_has ls 8 [(5, .int (nI 2)), (0, .ref b), (1, .ref (aw_r ad 0)), (2, .ref (aw_m ad 0)), (3, .ref (aw_o ad)), (4, .int (nI (6 * t)))] := hl
                refine lv_aload_n hx hb d_La_law_636 rfl (lv_at hl 3 rfl) ?_
                refine lv_aload_n hx hb d_La_law_637 rfl (lv_at hl 1 rfl) ?_
                refine lv_iload hx hb d_La_law_638 (lv_at hl 5 rfl) ?_
                refine lv_iconst (v := nI 1) hx hb d_La_law_640 (by decide +kernel) ?_
                refine lv_iadd hx hb d_La_law_641 ?_
                refine aw_ti (nI_add (6 * t) 1) ?_
                refine va_sld hx hb hX hbl hbA hS (i := (nI ((6 * t) + 1))) (vp_in_nI (by omega) (by omega)) d_La_law_642 ?_
                refine aw_ti (y := nI j) (by rw [nI_clamp (by omega)]; exact hc0.symm) ?_
                refine lv_aload_n hx hb d_La_law_643 rfl (lv_at hl 1 rfl) ?_
                refine lv_iload hx hb d_La_law_644 (lv_at hl 5 rfl) ?_
                refine lv_iconst (v := nI 2) hx hb d_La_law_646 (by decide +kernel) ?_
                refine lv_iadd hx hb d_La_law_647 ?_
                refine aw_ti (nI_add (6 * t) 2) ?_
                refine va_sld hx hb hX hbl hbA hS (i := (nI ((6 * t) + 2))) (vp_in_nI (by omega) (by omega)) d_La_law_648 ?_
                refine aw_ti (y := s2) (by rw [nI_clamp (by omega)]; exact hs2.symm) ?_
                have hj310 : ∀ x311 : Int32, (if s2 = 0 then nI 0 else nI 1) = x311 → W p l e room_1 s m #[Value.ref b] below meth c H locs ((85 + t) + 1) ((1246 + 6 * t) + 6) (lw_Z below #[Value.ref b] s) (F0 m 657 ls [.int x311, .int (nI j), .ref (aw_m ad 0)]) := by
                  intro x311 ebx311
                  refine lv_aload_n hx hb d_La_law_657 rfl (lv_at hl 1 rfl) ?_
                  refine lv_iload hx hb d_La_law_658 (lv_at hl 5 rfl) ?_
                  refine lv_iconst (v := nI 3) hx hb d_La_law_660 (by decide +kernel) ?_
                  refine lv_iadd hx hb d_La_law_661 ?_
                  refine aw_ti (nI_add (6 * t) 3) ?_
                  refine va_sld hx hb hX hbl hbA hS (i := (nI ((6 * t) + 3))) (vp_in_nI (by omega) (by omega)) d_La_law_662 ?_
                  refine aw_ti (y := nI k) (by rw [nI_clamp (by omega)]; exact hfr.symm) ?_
                  refine lv_aload_n hx hb d_La_law_663 rfl (lv_at hl 1 rfl) ?_
                  refine lv_iload hx hb d_La_law_664 (lv_at hl 5 rfl) ?_
                  refine lv_iconst (v := nI 4) hx hb d_La_law_666 (by decide +kernel) ?_
                  refine lv_iadd hx hb d_La_law_667 ?_
                  refine aw_ti (nI_add (6 * t) 4) ?_
                  refine va_sld hx hb hX hbl hbA hS (i := (nI ((6 * t) + 4))) (vp_in_nI (by omega) (by omega)) d_La_law_668 ?_
                  refine aw_ti (y := nI 0) (by rw [nI_clamp (by omega)]; exact hm0.symm) ?_
                  obtain ⟨_, he312⟩ := zr_M0 hSh
                  refine va_calli (va_runV (As := [.int (nI j), .int x311, .int (nI k), .int (nI 0)]) (rest := []) ⟨hx, hb, hml, hown, hG⟩ (k_Mo_feedXsV l D g ad N0 zG zO zX zY zA zB zM zI zL zK zN zF zQ j x311 k 0 hj (by omega) (by omega)) (aw_wV 4 hG gw_12_26 gw_12_23 gw_0_10 gw_12_24 gw_12_25 rfl rfl hd_Mo_feed ⟨Nat.le_of_ble_eq_true rfl, Nat.le_of_ble_eq_true rfl⟩) (ag_qV (va_recv hK hP rfl he312) hP hD hSh hU hS) rfl rfl hl.1 rfl (lv_room (Nat.le_of_ble_eq_true rfl)) d_La_law_669 ⟨by omega, by omega⟩) hS (fun _ _ h => h) (fun _ h => h) ?_
                  clear hP hD hSh hS he312
                  intro x313 u8 t8 H locs ht _ ex313 hB _ _ hS
                  obtain ⟨L, hP, hD, hSh⟩ := hB
                  rw [ht] at hP
                  clear ht
                  have ex313 := ex313.symm
                  refine lv_istore hx hb d_La_law_672 hl (by decide) rfl (fun ls hl => ?_)
                  have hl : lv_has ls 8 [(6, .int x313), (5, .int (nI 2)), (0, .ref b), (1, .ref (aw_r ad 0)), (2, .ref (aw_m ad 0)), (3, .ref (aw_o ad)), (4, .int (nI (6 * t)))] := hl
                  refine lv_goto (tgt := 853) hx hb d_La_law_674 (by decide) ?_
                  refine lv_iinc (k := 6) (v := nI (6 * t + 6)) hx hb d_La_law_853 hl rfl (aw_inc (6 * t) 6 6 (by decide +kernel)) (by decide) rfl (fun ls hl => ?_)
                  have hl : lv_has ls 8 [(4, .int (nI (6 * t + 6))), (6, .int x313), (5, .int (nI 2)), (0, .ref b), (1, .ref (aw_r ad 0)), (2, .ref (aw_m ad 0)), (3, .ref (aw_o ad))] := hl
                  refine lv_goto (tgt := 23) hx hb d_La_law_856 (by decide) ?_
                  have hl := lv_sub hl (l' := [(0, .ref b), (1, .ref (aw_r ad 0)), (2, .ref (aw_m ad 0)), (3, .ref (aw_o ad)), (4, .int (nI (6 * t + 6)))]) [3, 4, 5, 6, 0] rfl
                  refine W.widen (k := 85 + (t + 1)) (n := 1246 + 6 * (t + 1)) (by omega) (by omega) ?_
                  exact ih (t + 1) zG zO zX zY zA zB zM zI zL zK zN (nI 2) zQ _ _ L ls (by omega) hP hD hSh hR hS (by first | exact hl | simpa [Nat.mul_add] using hl)
                refine lv_if_eq (tgt := 656) hx hb d_La_law_649 (by decide) (fun h9 => ?_) (fun h9 => ?_)
                · refine lv_iconst (v := nI 0) hx hb d_La_law_656 (by decide +kernel) ?_
                  exact hj310 _ (if_pos h9)
                · refine lv_iconst (v := nI 1) hx hb d_La_law_652 (by decide +kernel) ?_
                  refine lv_goto (tgt := 657) hx hb d_La_law_653 (by decide) ?_
                  exact hj310 _ (if_neg h9)
              refine lv_if_eq (tgt := 617) hx hb d_La_law_610 (by decide) (fun h9 => ?_) (fun h9 => ?_)
              · refine lv_iconst (v := nI 0) hx hb d_La_law_617 (by decide +kernel) ?_
                exact hj307 _ (if_pos h9)
              · refine lv_iconst (v := nI 1) hx hb d_La_law_613 (by decide +kernel) ?_
                refine lv_goto (tgt := 618) hx hb d_La_law_614 (by decide) ?_
                exact hj307 _ (if_neg h9)
        · by_cases hs : (zG j).1 = 3
          · by_cases h5 : (zG j).2 = 5
            · refine lv_aload_n hx hb d_La_law_597 rfl (lv_at hl 1 rfl) ?_
              refine lv_aload_n hx hb d_La_law_598 rfl (lv_at hl 0 rfl) ?_
              refine lv_iload hx hb d_La_law_599 (lv_at hl 4 rfl) ?_
              refine lv_iconst (v := nI 1) hx hb d_La_law_601 (by decide +kernel) ?_
              refine lv_iadd hx hb d_La_law_602 ?_
              refine aw_ti (nI_add (6 * t) 1) ?_
              refine va_sld hx hb hX hbl hbA hS (i := (nI ((6 * t) + 1))) (vp_in_nI (by omega) (by omega)) d_La_law_603 ?_
              refine aw_ti (y := nI j) (by rw [nI_clamp (by omega)]; exact hc0.symm) ?_
              refine lv_aload_n hx hb d_La_law_604 rfl (lv_at hl 0 rfl) ?_
              refine lv_iload hx hb d_La_law_605 (lv_at hl 4 rfl) ?_
              refine lv_iconst (v := nI 2) hx hb d_La_law_607 (by decide +kernel) ?_
              refine lv_iadd hx hb d_La_law_608 ?_
              refine aw_ti (nI_add (6 * t) 2) ?_
              refine va_sld hx hb hX hbl hbA hS (i := (nI ((6 * t) + 2))) (vp_in_nI (by omega) (by omega)) d_La_law_609 ?_
              refine aw_ti (y := s2) (by rw [nI_clamp (by omega)]; exact hs2.symm) ?_
              have hj314 : ∀ x315 : Int32, (if s2 = 0 then nI 0 else nI 1) = x315 → W p l e room_1 s m #[Value.ref b] below meth c H locs (85 + t) (1246 + 6 * t) (lw_Z below #[Value.ref b] s) (F0 m 618 ls [.int x315, .int (nI j), .ref (aw_r ad 0)]) := by
                intro x315 ebx315
                refine lv_aload_n hx hb d_La_law_618 rfl (lv_at hl 0 rfl) ?_
                refine lv_iload hx hb d_La_law_619 (lv_at hl 4 rfl) ?_
                refine lv_iconst (v := nI 3) hx hb d_La_law_621 (by decide +kernel) ?_
                refine lv_iadd hx hb d_La_law_622 ?_
                refine aw_ti (nI_add (6 * t) 3) ?_
                refine va_sld hx hb hX hbl hbA hS (i := (nI ((6 * t) + 3))) (vp_in_nI (by omega) (by omega)) d_La_law_623 ?_
                refine aw_ti (y := nI k) (by rw [nI_clamp (by omega)]; exact hfr.symm) ?_
                refine lv_aload_n hx hb d_La_law_624 rfl (lv_at hl 0 rfl) ?_
                refine lv_iload hx hb d_La_law_625 (lv_at hl 4 rfl) ?_
                refine lv_iconst (v := nI 4) hx hb d_La_law_627 (by decide +kernel) ?_
                refine lv_iadd hx hb d_La_law_628 ?_
                refine aw_ti (nI_add (6 * t) 4) ?_
                refine va_sld hx hb hX hbl hbA hS (i := (nI ((6 * t) + 4))) (vp_in_nI (by omega) (by omega)) d_La_law_629 ?_
                refine aw_ti (y := nI mm) (by rw [nI_clamp (by omega)]; exact hm0.symm) ?_
                refine lv_aload_n hx hb d_La_law_630 rfl (lv_at hl 3 rfl) ?_
                refine va_calli (vx_runSW (As := [.ref (aw_r ad 0), .int (nI j), .int x315, .int (nI k), .int (nI mm), .ref (aw_o ad)]) (rest := []) ⟨hx, hb, hml, hown, hG⟩ (k_La_feedXs1V l hst D g ad N0 zG zO zX zY zA zB zM zI zL zK zN zF zQ j x315 k mm hj (by omega) (by omega) (by omega)) (aw_wW 6 hG gw_7_42 gw_7_40 gw_0_0 gw_7_41 rfl rfl hd_La_feed ⟨Nat.le_of_ble_eq_true rfl, Nat.le_of_ble_eq_true rfl⟩) (ag_qS hP hD hSh hU hS) rfl rfl hl.1 rfl (lv_room (Nat.le_of_ble_eq_true rfl)) d_La_law_631 ⟨by omega, by omega⟩) hS (fun _ _ h => h) (fun _ h => h) ?_
                clear hP hD hSh hS
                intro x316 u8 t8 H locs ht _ ex316 hB _ _ hS
                obtain ⟨L, hP, hD, hSh⟩ := hB
                rw [ht] at hP
                clear ht
                subst ex316
                refine lv_istore hx hb d_La_law_634 hl (by decide) rfl (fun ls hl => ?_)
                have hl : lv_has ls 8 [(5, .int (nI 2)), (0, .ref b), (1, .ref (aw_r ad 0)), (2, .ref (aw_m ad 0)), (3, .ref (aw_o ad)), (4, .int (nI (6 * t)))] := hl
                refine lv_aload_n hx hb d_La_law_636 rfl (lv_at hl 3 rfl) ?_
                refine lv_aload_n hx hb d_La_law_637 rfl (lv_at hl 1 rfl) ?_
                refine lv_iload hx hb d_La_law_638 (lv_at hl 5 rfl) ?_
                refine lv_iconst (v := nI 1) hx hb d_La_law_640 (by decide +kernel) ?_
                refine lv_iadd hx hb d_La_law_641 ?_
                refine aw_ti (nI_add (6 * t) 1) ?_
                refine va_sld hx hb hX hbl hbA hS (i := (nI ((6 * t) + 1))) (vp_in_nI (by omega) (by omega)) d_La_law_642 ?_
                refine aw_ti (y := nI j) (by rw [nI_clamp (by omega)]; exact hc0.symm) ?_
                refine lv_aload_n hx hb d_La_law_643 rfl (lv_at hl 1 rfl) ?_
                refine lv_iload hx hb d_La_law_644 (lv_at hl 5 rfl) ?_
                refine lv_iconst (v := nI 2) hx hb d_La_law_646 (by decide +kernel) ?_
                refine lv_iadd hx hb d_La_law_647 ?_
                refine aw_ti (nI_add (6 * t) 2) ?_
                refine va_sld hx hb hX hbl hbA hS (i := (nI ((6 * t) + 2))) (vp_in_nI (by omega) (by omega)) d_La_law_648 ?_
                refine aw_ti (y := s2) (by rw [nI_clamp (by omega)]; exact hs2.symm) ?_
                have hj317 : ∀ x318 : Int32, (if s2 = 0 then nI 0 else nI 1) = x318 → W p l e room_1 s m #[Value.ref b] below meth c H locs ((85 + t) + 1) ((1246 + 6 * t) + 6) (lw_Z below #[Value.ref b] s) (F0 m 657 ls [.int x318, .int (nI j), .ref (aw_m ad 0)]) := by
                  intro x318 ebx318
                  refine lv_aload_n hx hb d_La_law_657 rfl (lv_at hl 1 rfl) ?_
                  refine lv_iload hx hb d_La_law_658 (lv_at hl 5 rfl) ?_
                  refine lv_iconst (v := nI 3) hx hb d_La_law_660 (by decide +kernel) ?_
                  refine lv_iadd hx hb d_La_law_661 ?_
                  refine aw_ti (nI_add (6 * t) 3) ?_
                  refine va_sld hx hb hX hbl hbA hS (i := (nI ((6 * t) + 3))) (vp_in_nI (by omega) (by omega)) d_La_law_662 ?_
                  refine aw_ti (y := nI k) (by rw [nI_clamp (by omega)]; exact hfr.symm) ?_
                  refine lv_aload_n hx hb d_La_law_663 rfl (lv_at hl 1 rfl) ?_
                  refine lv_iload hx hb d_La_law_664 (lv_at hl 5 rfl) ?_
                  refine lv_iconst (v := nI 4) hx hb d_La_law_666 (by decide +kernel) ?_
                  refine lv_iadd hx hb d_La_law_667 ?_
                  refine aw_ti (nI_add (6 * t) 4) ?_
                  refine va_sld hx hb hX hbl hbA hS (i := (nI ((6 * t) + 4))) (vp_in_nI (by omega) (by omega)) d_La_law_668 ?_
                  refine aw_ti (y := nI mm) (by rw [nI_clamp (by omega)]; exact hm0.symm) ?_
                  obtain ⟨_, he319⟩ := zr_M0 hSh
                  refine va_calli (va_runV (As := [.int (nI j), .int x318, .int (nI k), .int (nI mm)]) (rest := []) ⟨hx, hb, hml, hown, hG⟩ (k_Mo_feedXsV l D g ad N0 zG zO zX zY zA zB zM zI zL zK zN zF zQ j x318 k mm hj (by omega) (by omega)) (aw_wV 4 hG gw_12_26 gw_12_23 gw_0_10 gw_12_24 gw_12_25 rfl rfl hd_Mo_feed ⟨Nat.le_of_ble_eq_true rfl, Nat.le_of_ble_eq_true rfl⟩) (ag_qV (va_recv hK hP rfl he319) hP hD hSh hU hS) rfl rfl hl.1 rfl (lv_room (Nat.le_of_ble_eq_true rfl)) d_La_law_669 ⟨by omega, by omega⟩) hS (fun _ _ h => h) (fun _ h => h) ?_
                  clear hP hD hSh hS he319
                  intro x320 u8 t8 H locs ht _ ex320 hB _ _ hS
                  obtain ⟨L, hP, hD, hSh⟩ := hB
                  rw [ht] at hP
                  clear ht
                  have ex320 := ex320.symm
                  refine lv_istore hx hb d_La_law_672 hl (by decide) rfl (fun ls hl => ?_)
                  have hl : lv_has ls 8 [(6, .int x320), (5, .int (nI 2)), (0, .ref b), (1, .ref (aw_r ad 0)), (2, .ref (aw_m ad 0)), (3, .ref (aw_o ad)), (4, .int (nI (6 * t)))] := hl
                  refine lv_goto (tgt := 853) hx hb d_La_law_674 (by decide) ?_
                  refine lv_iinc (k := 6) (v := nI (6 * t + 6)) hx hb d_La_law_853 hl rfl (aw_inc (6 * t) 6 6 (by decide +kernel)) (by decide) rfl (fun ls hl => ?_)
                  have hl : lv_has ls 8 [(4, .int (nI (6 * t + 6))), (6, .int x320), (5, .int (nI 2)), (0, .ref b), (1, .ref (aw_r ad 0)), (2, .ref (aw_m ad 0)), (3, .ref (aw_o ad))] := hl
                  refine lv_goto (tgt := 23) hx hb d_La_law_856 (by decide) ?_
                  have hl := lv_sub hl (l' := [(0, .ref b), (1, .ref (aw_r ad 0)), (2, .ref (aw_m ad 0)), (3, .ref (aw_o ad)), (4, .int (nI (6 * t + 6)))]) [3, 4, 5, 6, 0] rfl
                  refine W.widen (k := 85 + (t + 1)) (n := 1246 + 6 * (t + 1)) (by omega) (by omega) ?_
                  exact ih (t + 1) zG zO zX zY zA zB zM zI zL zK zN (nI 2) zQ _ _ L ls (by omega) hP hD hSh hR hS (by first | exact hl | simpa [Nat.mul_add] using hl)
                refine lv_if_eq (tgt := 656) hx hb d_La_law_649 (by decide) (fun h9 => ?_) (fun h9 => ?_)
                · refine lv_iconst (v := nI 0) hx hb d_La_law_656 (by decide +kernel) ?_
                  exact hj317 _ (if_pos h9)
                · refine lv_iconst (v := nI 1) hx hb d_La_law_652 (by decide +kernel) ?_
                  refine lv_goto (tgt := 657) hx hb d_La_law_653 (by decide) ?_
                  exact hj317 _ (if_neg h9)
              refine lv_if_eq (tgt := 617) hx hb d_La_law_610 (by decide) (fun h9 => ?_) (fun h9 => ?_)
              · refine lv_iconst (v := nI 0) hx hb d_La_law_617 (by decide +kernel) ?_
                exact hj314 _ (if_pos h9)
              · refine lv_iconst (v := nI 1) hx hb d_La_law_613 (by decide +kernel) ?_
                refine lv_goto (tgt := 618) hx hb d_La_law_614 (by decide) ?_
                exact hj314 _ (if_neg h9)
            · by_cases hm : (zG j).2 ≤ 1
              · by_cases h8 : mm % 8 = 0
                · obtain ⟨q, rfl⟩ : ∃ q, mm = 8 * q := ⟨mm / 8, by omega⟩
                  obtain ⟨kc, hkc, hci, hco⟩ := hR.2.1 j hj (by omega)
                  refine lv_aload_n hx hb d_La_law_597 rfl (lv_at hl 1 rfl) ?_
                  refine lv_aload_n hx hb d_La_law_598 rfl (lv_at hl 0 rfl) ?_
                  refine lv_iload hx hb d_La_law_599 (lv_at hl 4 rfl) ?_
                  refine lv_iconst (v := nI 1) hx hb d_La_law_601 (by decide +kernel) ?_
                  refine lv_iadd hx hb d_La_law_602 ?_
                  refine aw_ti (nI_add (6 * t) 1) ?_
                  refine va_sld hx hb hX hbl hbA hS (i := (nI ((6 * t) + 1))) (vp_in_nI (by omega) (by omega)) d_La_law_603 ?_
                  refine aw_ti (y := nI j) (by rw [nI_clamp (by omega)]; exact hc0.symm) ?_
                  refine lv_aload_n hx hb d_La_law_604 rfl (lv_at hl 0 rfl) ?_
                  refine lv_iload hx hb d_La_law_605 (lv_at hl 4 rfl) ?_
                  refine lv_iconst (v := nI 2) hx hb d_La_law_607 (by decide +kernel) ?_
                  refine lv_iadd hx hb d_La_law_608 ?_
                  refine aw_ti (nI_add (6 * t) 2) ?_
                  refine va_sld hx hb hX hbl hbA hS (i := (nI ((6 * t) + 2))) (vp_in_nI (by omega) (by omega)) d_La_law_609 ?_
                  refine aw_ti (y := s2) (by rw [nI_clamp (by omega)]; exact hs2.symm) ?_
                  have hj321 : ∀ x322 : Int32, (if s2 = 0 then nI 0 else nI 1) = x322 → W p l e room_1 s m #[Value.ref b] below meth c H locs (85 + t) (1246 + 6 * t) (lw_Z below #[Value.ref b] s) (F0 m 618 ls [.int x322, .int (nI j), .ref (aw_r ad 0)]) := by
                    intro x322 ebx322
                    refine lv_aload_n hx hb d_La_law_618 rfl (lv_at hl 0 rfl) ?_
                    refine lv_iload hx hb d_La_law_619 (lv_at hl 4 rfl) ?_
                    refine lv_iconst (v := nI 3) hx hb d_La_law_621 (by decide +kernel) ?_
                    refine lv_iadd hx hb d_La_law_622 ?_
                    refine aw_ti (nI_add (6 * t) 3) ?_
                    refine va_sld hx hb hX hbl hbA hS (i := (nI ((6 * t) + 3))) (vp_in_nI (by omega) (by omega)) d_La_law_623 ?_
                    refine aw_ti (y := nI k) (by rw [nI_clamp (by omega)]; exact hfr.symm) ?_
                    refine lv_aload_n hx hb d_La_law_624 rfl (lv_at hl 0 rfl) ?_
                    refine lv_iload hx hb d_La_law_625 (lv_at hl 4 rfl) ?_
                    refine lv_iconst (v := nI 4) hx hb d_La_law_627 (by decide +kernel) ?_
                    refine lv_iadd hx hb d_La_law_628 ?_
                    refine aw_ti (nI_add (6 * t) 4) ?_
                    refine va_sld hx hb hX hbl hbA hS (i := (nI ((6 * t) + 4))) (vp_in_nI (by omega) (by omega)) d_La_law_629 ?_
                    refine aw_ti (y := nI (8 * q)) (by rw [nI_clamp (by omega)]; exact hm0.symm) ?_
                    refine lv_aload_n hx hb d_La_law_630 rfl (lv_at hl 3 rfl) ?_
                    refine va_calli (vx_runSW (As := [.ref (aw_r ad 0), .int (nI j), .int x322, .int (nI k), .int (nI (8 * q)), .ref (aw_o ad)]) (rest := []) ⟨hx, hb, hml, hown, hG⟩ (k_La_feed18V l hst D g ad N0 zG zO zX zY zA zB zM zI zL zK zN zF zQ j x322 k q hj (by omega) (by omega) (by omega) (by omega)) (aw_wW 6 hG gw_7_42 gw_7_40 gw_0_0 gw_7_41 rfl rfl hd_La_feed ⟨Nat.le_of_ble_eq_true rfl, Nat.le_of_ble_eq_true rfl⟩) (ag_qS hP hD hSh hU hS) rfl rfl hl.1 rfl (lv_room (Nat.le_of_ble_eq_true rfl)) d_La_law_631 ⟨by omega, by omega⟩) hS (fun _ _ h => h) (fun _ h => h) ?_
                    clear hP hD hSh hS
                    intro x323 u8 t8 H locs ht _ ex323 hB _ _ hS
                    obtain ⟨L, hP, hD, hSh⟩ := hB
                    rw [ht] at hP
                    clear ht
                    subst ex323
                    obtain ⟨zX324, ezX324⟩ : ∃ z : Nat → Nat → Int64, v_La_feed18V_zX zG zO zX zY zA zB j x322 k q = z := ⟨_, rfl⟩
                    rw [ezX324] at hSh
                    obtain ⟨zY325, ezY325⟩ : ∃ z : Nat → Nat → Int32, v_La_feed18V_zY zG zO zX zY zA zB j x322 k q = z := ⟨_, rfl⟩
                    rw [ezY325] at hSh
                    obtain ⟨zB326, ezB326⟩ : ∃ z : Nat → Int32, v_La_feed18V_zB zG zO zX zY zA zB j x322 k q = z := ⟨_, rfl⟩
                    rw [ezB326] at hSh
                    obtain ⟨zQ327, ezQ327⟩ : ∃ z : Int64, v_La_feed18V_zQ zG zO zX zY zA zB j x322 k q = z := ⟨_, rfl⟩
                    rw [ezQ327] at hSh
                    refine lv_istore hx hb d_La_law_634 hl (by decide) rfl (fun ls hl => ?_)
                    have hl : lv_has ls 8 [(5, .int (nI 0)), (0, .ref b), (1, .ref (aw_r ad 0)), (2, .ref (aw_m ad 0)), (3, .ref (aw_o ad)), (4, .int (nI (6 * t)))] := hl
                    refine lv_aload_n hx hb d_La_law_636 rfl (lv_at hl 3 rfl) ?_
                    refine lv_aload_n hx hb d_La_law_637 rfl (lv_at hl 1 rfl) ?_
                    refine lv_iload hx hb d_La_law_638 (lv_at hl 5 rfl) ?_
                    refine lv_iconst (v := nI 1) hx hb d_La_law_640 (by decide +kernel) ?_
                    refine lv_iadd hx hb d_La_law_641 ?_
                    refine aw_ti (nI_add (6 * t) 1) ?_
                    refine va_sld hx hb hX hbl hbA hS (i := (nI ((6 * t) + 1))) (vp_in_nI (by omega) (by omega)) d_La_law_642 ?_
                    refine aw_ti (y := nI j) (by rw [nI_clamp (by omega)]; exact hc0.symm) ?_
                    refine lv_aload_n hx hb d_La_law_643 rfl (lv_at hl 1 rfl) ?_
                    refine lv_iload hx hb d_La_law_644 (lv_at hl 5 rfl) ?_
                    refine lv_iconst (v := nI 2) hx hb d_La_law_646 (by decide +kernel) ?_
                    refine lv_iadd hx hb d_La_law_647 ?_
                    refine aw_ti (nI_add (6 * t) 2) ?_
                    refine va_sld hx hb hX hbl hbA hS (i := (nI ((6 * t) + 2))) (vp_in_nI (by omega) (by omega)) d_La_law_648 ?_
                    refine aw_ti (y := s2) (by rw [nI_clamp (by omega)]; exact hs2.symm) ?_
                    have hj328 : ∀ x329 : Int32, (if s2 = 0 then nI 0 else nI 1) = x329 → W p l e room_1 s m #[Value.ref b] below meth c H locs ((85 + t) + 1) ((1246 + 6 * t) + 6) (lw_Z below #[Value.ref b] s) (F0 m 657 ls [.int x329, .int (nI j), .ref (aw_m ad 0)]) := by
                      intro x329 ebx329
                      refine lv_aload_n hx hb d_La_law_657 rfl (lv_at hl 1 rfl) ?_
                      refine lv_iload hx hb d_La_law_658 (lv_at hl 5 rfl) ?_
                      refine lv_iconst (v := nI 3) hx hb d_La_law_660 (by decide +kernel) ?_
                      refine lv_iadd hx hb d_La_law_661 ?_
                      refine aw_ti (nI_add (6 * t) 3) ?_
                      refine va_sld hx hb hX hbl hbA hS (i := (nI ((6 * t) + 3))) (vp_in_nI (by omega) (by omega)) d_La_law_662 ?_
                      refine aw_ti (y := nI k) (by rw [nI_clamp (by omega)]; exact hfr.symm) ?_
                      refine lv_aload_n hx hb d_La_law_663 rfl (lv_at hl 1 rfl) ?_
                      refine lv_iload hx hb d_La_law_664 (lv_at hl 5 rfl) ?_
                      refine lv_iconst (v := nI 4) hx hb d_La_law_666 (by decide +kernel) ?_
                      refine lv_iadd hx hb d_La_law_667 ?_
                      refine aw_ti (nI_add (6 * t) 4) ?_
                      refine va_sld hx hb hX hbl hbA hS (i := (nI ((6 * t) + 4))) (vp_in_nI (by omega) (by omega)) d_La_law_668 ?_
                      refine aw_ti (y := nI (8 * q)) (by rw [nI_clamp (by omega)]; exact hm0.symm) ?_
                      obtain ⟨_, he330⟩ := zr_M0 hSh
                      refine va_calli (va_runV (As := [.int (nI j), .int x329, .int (nI k), .int (nI (8 * q))]) (rest := []) ⟨hx, hb, hml, hown, hG⟩ (k_Mo_feed8V l D g ad N0 zG zO zX324 zY325 zA zB326 zM zI zL zK zN zF zQ327 j kc x329 k (8 * q) hj (by omega) (by omega) (by omega) (by omega) hkc hci) (aw_wV 4 hG gw_12_26 gw_12_23 gw_0_10 gw_12_24 gw_12_25 rfl rfl hd_Mo_feed ⟨Nat.le_of_ble_eq_true rfl, Nat.le_of_ble_eq_true rfl⟩) (ag_qV (va_recv hK hP rfl he330) hP hD hSh hU hS) rfl rfl hl.1 rfl (lv_room (Nat.le_of_ble_eq_true rfl)) d_La_law_669 ⟨by omega, by omega⟩) hS (fun _ _ h => h) (fun _ h => h) ?_
                      clear hP hD hSh hS he330
                      intro x331 u8 t8 H locs ht _ ex331 hB _ _ hS
                      obtain ⟨L, hP, hD, hSh⟩ := hB
                      rw [ht] at hP
                      clear ht
                      obtain ⟨zI332, ezI332⟩ : ∃ z : Nat → Nat → Int32, v_Mo_feed8V_zI zM zI zL j kc x329 k (8 * q) = z := ⟨_, rfl⟩
                      rw [ezI332] at hSh
                      obtain ⟨zL333, ezL333⟩ : ∃ z : Nat → Nat → Int64, v_Mo_feed8V_zL zM zI zL j kc x329 k (8 * q) = z := ⟨_, rfl⟩
                      rw [ezL333] at hSh
                      have ex331 := ex331.symm
                      refine lv_istore hx hb d_La_law_672 hl (by decide) rfl (fun ls hl => ?_)
                      have hl : lv_has ls 8 [(6, .int x331), (5, .int (nI 0)), (0, .ref b), (1, .ref (aw_r ad 0)), (2, .ref (aw_m ad 0)), (3, .ref (aw_o ad)), (4, .int (nI (6 * t)))] := hl
                      refine lv_goto (tgt := 853) hx hb d_La_law_674 (by decide) ?_
                      refine lv_iinc (k := 6) (v := nI (6 * t + 6)) hx hb d_La_law_853 hl rfl (aw_inc (6 * t) 6 6 (by decide +kernel)) (by decide) rfl (fun ls hl => ?_)
                      have hl : lv_has ls 8 [(4, .int (nI (6 * t + 6))), (6, .int x331), (5, .int (nI 0)), (0, .ref b), (1, .ref (aw_r ad 0)), (2, .ref (aw_m ad 0)), (3, .ref (aw_o ad))] := hl
                      refine lv_goto (tgt := 23) hx hb d_La_law_856 (by decide) ?_
                      have hl := lv_sub hl (l' := [(0, .ref b), (1, .ref (aw_r ad 0)), (2, .ref (aw_m ad 0)), (3, .ref (aw_o ad)), (4, .int (nI (6 * t + 6)))]) [3, 4, 5, 6, 0] rfl
                      refine W.widen (k := 85 + (t + 1)) (n := 1246 + 6 * (t + 1)) (by omega) (by omega) ?_
                      have hR : az_R zG zO zX324 zY325 zA zB326 zM zI332 zL333 := by
                        subst ex331 ezL333 ezI332 ebx329 ezQ327 ezB326 ezY325 ezX324 ebx322
                        exact r_feed18_8 hR hj hs hm h0 hk hkc hci hco
                      exact ih (t + 1) zG zO zX324 zY325 zA zB326 zM zI332 zL333 (nI kc) (az_wn kc) (nI 0) zQ327 _ _ L ls (by omega) hP hD hSh hR hS (by first | exact hl | simpa [Nat.mul_add] using hl)
                    refine lv_if_eq (tgt := 656) hx hb d_La_law_649 (by decide) (fun h9 => ?_) (fun h9 => ?_)
                    · refine lv_iconst (v := nI 0) hx hb d_La_law_656 (by decide +kernel) ?_
                      exact hj328 _ (if_pos h9)
                    · refine lv_iconst (v := nI 1) hx hb d_La_law_652 (by decide +kernel) ?_
                      refine lv_goto (tgt := 657) hx hb d_La_law_653 (by decide) ?_
                      exact hj328 _ (if_neg h9)
                  refine lv_if_eq (tgt := 617) hx hb d_La_law_610 (by decide) (fun h9 => ?_) (fun h9 => ?_)
                  · refine lv_iconst (v := nI 0) hx hb d_La_law_617 (by decide +kernel) ?_
                    exact hj321 _ (if_pos h9)
                  · refine lv_iconst (v := nI 1) hx hb d_La_law_613 (by decide +kernel) ?_
                    refine lv_goto (tgt := 618) hx hb d_La_law_614 (by decide) ?_
                    exact hj321 _ (if_neg h9)
                · refine lv_aload_n hx hb d_La_law_597 rfl (lv_at hl 1 rfl) ?_
                  refine lv_aload_n hx hb d_La_law_598 rfl (lv_at hl 0 rfl) ?_
                  refine lv_iload hx hb d_La_law_599 (lv_at hl 4 rfl) ?_
                  refine lv_iconst (v := nI 1) hx hb d_La_law_601 (by decide +kernel) ?_
                  refine lv_iadd hx hb d_La_law_602 ?_
                  refine aw_ti (nI_add (6 * t) 1) ?_
                  refine va_sld hx hb hX hbl hbA hS (i := (nI ((6 * t) + 1))) (vp_in_nI (by omega) (by omega)) d_La_law_603 ?_
                  refine aw_ti (y := nI j) (by rw [nI_clamp (by omega)]; exact hc0.symm) ?_
                  refine lv_aload_n hx hb d_La_law_604 rfl (lv_at hl 0 rfl) ?_
                  refine lv_iload hx hb d_La_law_605 (lv_at hl 4 rfl) ?_
                  refine lv_iconst (v := nI 2) hx hb d_La_law_607 (by decide +kernel) ?_
                  refine lv_iadd hx hb d_La_law_608 ?_
                  refine aw_ti (nI_add (6 * t) 2) ?_
                  refine va_sld hx hb hX hbl hbA hS (i := (nI ((6 * t) + 2))) (vp_in_nI (by omega) (by omega)) d_La_law_609 ?_
                  refine aw_ti (y := s2) (by rw [nI_clamp (by omega)]; exact hs2.symm) ?_
                  have hj334 : ∀ x335 : Int32, (if s2 = 0 then nI 0 else nI 1) = x335 → W p l e room_1 s m #[Value.ref b] below meth c H locs (85 + t) (1246 + 6 * t) (lw_Z below #[Value.ref b] s) (F0 m 618 ls [.int x335, .int (nI j), .ref (aw_r ad 0)]) := by
                    intro x335 ebx335
                    refine lv_aload_n hx hb d_La_law_618 rfl (lv_at hl 0 rfl) ?_
                    refine lv_iload hx hb d_La_law_619 (lv_at hl 4 rfl) ?_
                    refine lv_iconst (v := nI 3) hx hb d_La_law_621 (by decide +kernel) ?_
                    refine lv_iadd hx hb d_La_law_622 ?_
                    refine aw_ti (nI_add (6 * t) 3) ?_
                    refine va_sld hx hb hX hbl hbA hS (i := (nI ((6 * t) + 3))) (vp_in_nI (by omega) (by omega)) d_La_law_623 ?_
                    refine aw_ti (y := nI k) (by rw [nI_clamp (by omega)]; exact hfr.symm) ?_
                    refine lv_aload_n hx hb d_La_law_624 rfl (lv_at hl 0 rfl) ?_
                    refine lv_iload hx hb d_La_law_625 (lv_at hl 4 rfl) ?_
                    refine lv_iconst (v := nI 4) hx hb d_La_law_627 (by decide +kernel) ?_
                    refine lv_iadd hx hb d_La_law_628 ?_
                    refine aw_ti (nI_add (6 * t) 4) ?_
                    refine va_sld hx hb hX hbl hbA hS (i := (nI ((6 * t) + 4))) (vp_in_nI (by omega) (by omega)) d_La_law_629 ?_
                    refine aw_ti (y := nI mm) (by rw [nI_clamp (by omega)]; exact hm0.symm) ?_
                    refine lv_aload_n hx hb d_La_law_630 rfl (lv_at hl 3 rfl) ?_
                    refine va_calli (vx_runSW (As := [.ref (aw_r ad 0), .int (nI j), .int x335, .int (nI k), .int (nI mm), .ref (aw_o ad)]) (rest := []) ⟨hx, hb, hml, hown, hG⟩ (k_La_feedXaV l hst D g ad N0 zG zO zX zY zA zB zM zI zL zK zN zF zQ j x335 k mm hj (by omega) (by omega) (by omega) (by omega) (by omega)) (aw_wW 6 hG gw_7_42 gw_7_40 gw_0_0 gw_7_41 rfl rfl hd_La_feed ⟨Nat.le_of_ble_eq_true rfl, Nat.le_of_ble_eq_true rfl⟩) (ag_qS hP hD hSh hU hS) rfl rfl hl.1 rfl (lv_room (Nat.le_of_ble_eq_true rfl)) d_La_law_631 ⟨by omega, by omega⟩) hS (fun _ _ h => h) (fun _ h => h) ?_
                    clear hP hD hSh hS
                    intro x336 u8 t8 H locs ht _ ex336 hB _ _ hS
                    obtain ⟨L, hP, hD, hSh⟩ := hB
                    rw [ht] at hP
                    clear ht
                    subst ex336
                    refine lv_istore hx hb d_La_law_634 hl (by decide) rfl (fun ls hl => ?_)
                    have hl : lv_has ls 8 [(5, .int (nI 3)), (0, .ref b), (1, .ref (aw_r ad 0)), (2, .ref (aw_m ad 0)), (3, .ref (aw_o ad)), (4, .int (nI (6 * t)))] := hl
                    refine lv_aload_n hx hb d_La_law_636 rfl (lv_at hl 3 rfl) ?_
                    refine lv_aload_n hx hb d_La_law_637 rfl (lv_at hl 1 rfl) ?_
                    refine lv_iload hx hb d_La_law_638 (lv_at hl 5 rfl) ?_
                    refine lv_iconst (v := nI 1) hx hb d_La_law_640 (by decide +kernel) ?_
                    refine lv_iadd hx hb d_La_law_641 ?_
                    refine aw_ti (nI_add (6 * t) 1) ?_
                    refine va_sld hx hb hX hbl hbA hS (i := (nI ((6 * t) + 1))) (vp_in_nI (by omega) (by omega)) d_La_law_642 ?_
                    refine aw_ti (y := nI j) (by rw [nI_clamp (by omega)]; exact hc0.symm) ?_
                    refine lv_aload_n hx hb d_La_law_643 rfl (lv_at hl 1 rfl) ?_
                    refine lv_iload hx hb d_La_law_644 (lv_at hl 5 rfl) ?_
                    refine lv_iconst (v := nI 2) hx hb d_La_law_646 (by decide +kernel) ?_
                    refine lv_iadd hx hb d_La_law_647 ?_
                    refine aw_ti (nI_add (6 * t) 2) ?_
                    refine va_sld hx hb hX hbl hbA hS (i := (nI ((6 * t) + 2))) (vp_in_nI (by omega) (by omega)) d_La_law_648 ?_
                    refine aw_ti (y := s2) (by rw [nI_clamp (by omega)]; exact hs2.symm) ?_
                    have hj337 : ∀ x338 : Int32, (if s2 = 0 then nI 0 else nI 1) = x338 → W p l e room_1 s m #[Value.ref b] below meth c H locs ((85 + t) + 1) ((1246 + 6 * t) + 6) (lw_Z below #[Value.ref b] s) (F0 m 657 ls [.int x338, .int (nI j), .ref (aw_m ad 0)]) := by
                      intro x338 ebx338
                      refine lv_aload_n hx hb d_La_law_657 rfl (lv_at hl 1 rfl) ?_
                      refine lv_iload hx hb d_La_law_658 (lv_at hl 5 rfl) ?_
                      refine lv_iconst (v := nI 3) hx hb d_La_law_660 (by decide +kernel) ?_
                      refine lv_iadd hx hb d_La_law_661 ?_
                      refine aw_ti (nI_add (6 * t) 3) ?_
                      refine va_sld hx hb hX hbl hbA hS (i := (nI ((6 * t) + 3))) (vp_in_nI (by omega) (by omega)) d_La_law_662 ?_
                      refine aw_ti (y := nI k) (by rw [nI_clamp (by omega)]; exact hfr.symm) ?_
                      refine lv_aload_n hx hb d_La_law_663 rfl (lv_at hl 1 rfl) ?_
                      refine lv_iload hx hb d_La_law_664 (lv_at hl 5 rfl) ?_
                      refine lv_iconst (v := nI 4) hx hb d_La_law_666 (by decide +kernel) ?_
                      refine lv_iadd hx hb d_La_law_667 ?_
                      refine aw_ti (nI_add (6 * t) 4) ?_
                      refine va_sld hx hb hX hbl hbA hS (i := (nI ((6 * t) + 4))) (vp_in_nI (by omega) (by omega)) d_La_law_668 ?_
                      refine aw_ti (y := nI mm) (by rw [nI_clamp (by omega)]; exact hm0.symm) ?_
                      obtain ⟨_, he339⟩ := zr_M0 hSh
                      refine va_calli (va_runV (As := [.int (nI j), .int x338, .int (nI k), .int (nI mm)]) (rest := []) ⟨hx, hb, hml, hown, hG⟩ (k_Mo_feedXaV l D g ad N0 zG zO zX zY zA zB zM zI zL zK zN zF zQ j x338 k mm hj (by omega) (by omega) (by omega) (by omega)) (aw_wV 4 hG gw_12_26 gw_12_23 gw_0_10 gw_12_24 gw_12_25 rfl rfl hd_Mo_feed ⟨Nat.le_of_ble_eq_true rfl, Nat.le_of_ble_eq_true rfl⟩) (ag_qV (va_recv hK hP rfl he339) hP hD hSh hU hS) rfl rfl hl.1 rfl (lv_room (Nat.le_of_ble_eq_true rfl)) d_La_law_669 ⟨by omega, by omega⟩) hS (fun _ _ h => h) (fun _ h => h) ?_
                      clear hP hD hSh hS he339
                      intro x340 u8 t8 H locs ht _ ex340 hB _ _ hS
                      obtain ⟨L, hP, hD, hSh⟩ := hB
                      rw [ht] at hP
                      clear ht
                      have ex340 := ex340.symm
                      refine lv_istore hx hb d_La_law_672 hl (by decide) rfl (fun ls hl => ?_)
                      have hl : lv_has ls 8 [(6, .int x340), (5, .int (nI 3)), (0, .ref b), (1, .ref (aw_r ad 0)), (2, .ref (aw_m ad 0)), (3, .ref (aw_o ad)), (4, .int (nI (6 * t)))] := hl
                      refine lv_goto (tgt := 853) hx hb d_La_law_674 (by decide) ?_
                      refine lv_iinc (k := 6) (v := nI (6 * t + 6)) hx hb d_La_law_853 hl rfl (aw_inc (6 * t) 6 6 (by decide +kernel)) (by decide) rfl (fun ls hl => ?_)
                      have hl : lv_has ls 8 [(4, .int (nI (6 * t + 6))), (6, .int x340), (5, .int (nI 3)), (0, .ref b), (1, .ref (aw_r ad 0)), (2, .ref (aw_m ad 0)), (3, .ref (aw_o ad))] := hl
                      refine lv_goto (tgt := 23) hx hb d_La_law_856 (by decide) ?_
                      have hl := lv_sub hl (l' := [(0, .ref b), (1, .ref (aw_r ad 0)), (2, .ref (aw_m ad 0)), (3, .ref (aw_o ad)), (4, .int (nI (6 * t + 6)))]) [3, 4, 5, 6, 0] rfl
                      refine W.widen (k := 85 + (t + 1)) (n := 1246 + 6 * (t + 1)) (by omega) (by omega) ?_
                      exact ih (t + 1) zG zO zX zY zA zB zM zI zL zK zN (nI 3) zQ _ _ L ls (by omega) hP hD hSh hR hS (by first | exact hl | simpa [Nat.mul_add] using hl)
                    refine lv_if_eq (tgt := 656) hx hb d_La_law_649 (by decide) (fun h9 => ?_) (fun h9 => ?_)
                    · refine lv_iconst (v := nI 0) hx hb d_La_law_656 (by decide +kernel) ?_
                      exact hj337 _ (if_pos h9)
                    · refine lv_iconst (v := nI 1) hx hb d_La_law_652 (by decide +kernel) ?_
                      refine lv_goto (tgt := 657) hx hb d_La_law_653 (by decide) ?_
                      exact hj337 _ (if_neg h9)
                  refine lv_if_eq (tgt := 617) hx hb d_La_law_610 (by decide) (fun h9 => ?_) (fun h9 => ?_)
                  · refine lv_iconst (v := nI 0) hx hb d_La_law_617 (by decide +kernel) ?_
                    exact hj334 _ (if_pos h9)
                  · refine lv_iconst (v := nI 1) hx hb d_La_law_613 (by decide +kernel) ?_
                    refine lv_goto (tgt := 618) hx hb d_La_law_614 (by decide) ?_
                    exact hj334 _ (if_neg h9)
              · obtain ⟨kc, hkc, hci, hco⟩ := hR.2.1 j hj (by omega)
                refine lv_aload_n hx hb d_La_law_597 rfl (lv_at hl 1 rfl) ?_
                refine lv_aload_n hx hb d_La_law_598 rfl (lv_at hl 0 rfl) ?_
                refine lv_iload hx hb d_La_law_599 (lv_at hl 4 rfl) ?_
                refine lv_iconst (v := nI 1) hx hb d_La_law_601 (by decide +kernel) ?_
                refine lv_iadd hx hb d_La_law_602 ?_
                refine aw_ti (nI_add (6 * t) 1) ?_
                refine va_sld hx hb hX hbl hbA hS (i := (nI ((6 * t) + 1))) (vp_in_nI (by omega) (by omega)) d_La_law_603 ?_
                refine aw_ti (y := nI j) (by rw [nI_clamp (by omega)]; exact hc0.symm) ?_
                refine lv_aload_n hx hb d_La_law_604 rfl (lv_at hl 0 rfl) ?_
                refine lv_iload hx hb d_La_law_605 (lv_at hl 4 rfl) ?_
                refine lv_iconst (v := nI 2) hx hb d_La_law_607 (by decide +kernel) ?_
                refine lv_iadd hx hb d_La_law_608 ?_
                refine aw_ti (nI_add (6 * t) 2) ?_
                refine va_sld hx hb hX hbl hbA hS (i := (nI ((6 * t) + 2))) (vp_in_nI (by omega) (by omega)) d_La_law_609 ?_
                refine aw_ti (y := s2) (by rw [nI_clamp (by omega)]; exact hs2.symm) ?_
                have hj341 : ∀ x342 : Int32, (if s2 = 0 then nI 0 else nI 1) = x342 → W p l e room_1 s m #[Value.ref b] below meth c H locs (85 + t) (1246 + 6 * t) (lw_Z below #[Value.ref b] s) (F0 m 618 ls [.int x342, .int (nI j), .ref (aw_r ad 0)]) := by
                  intro x342 ebx342
                  refine lv_aload_n hx hb d_La_law_618 rfl (lv_at hl 0 rfl) ?_
                  refine lv_iload hx hb d_La_law_619 (lv_at hl 4 rfl) ?_
                  refine lv_iconst (v := nI 3) hx hb d_La_law_621 (by decide +kernel) ?_
                  refine lv_iadd hx hb d_La_law_622 ?_
                  refine aw_ti (nI_add (6 * t) 3) ?_
                  refine va_sld hx hb hX hbl hbA hS (i := (nI ((6 * t) + 3))) (vp_in_nI (by omega) (by omega)) d_La_law_623 ?_
                  refine aw_ti (y := nI k) (by rw [nI_clamp (by omega)]; exact hfr.symm) ?_
                  refine lv_aload_n hx hb d_La_law_624 rfl (lv_at hl 0 rfl) ?_
                  refine lv_iload hx hb d_La_law_625 (lv_at hl 4 rfl) ?_
                  refine lv_iconst (v := nI 4) hx hb d_La_law_627 (by decide +kernel) ?_
                  refine lv_iadd hx hb d_La_law_628 ?_
                  refine aw_ti (nI_add (6 * t) 4) ?_
                  refine va_sld hx hb hX hbl hbA hS (i := (nI ((6 * t) + 4))) (vp_in_nI (by omega) (by omega)) d_La_law_629 ?_
                  refine aw_ti (y := nI mm) (by rw [nI_clamp (by omega)]; exact hm0.symm) ?_
                  refine lv_aload_n hx hb d_La_law_630 rfl (lv_at hl 3 rfl) ?_
                  refine va_calli (vx_runSW (As := [.ref (aw_r ad 0), .int (nI j), .int x342, .int (nI k), .int (nI mm), .ref (aw_o ad)]) (rest := []) ⟨hx, hb, hml, hown, hG⟩ (k_La_feed11V l hst D g ad N0 zG zO zX zY zA zB zM zI zL zK zN zF zQ j x342 k mm hj (by omega) (by omega) (by omega) (by omega) (by omega)) (aw_wW 6 hG gw_7_42 gw_7_40 gw_0_0 gw_7_41 rfl rfl hd_La_feed ⟨Nat.le_of_ble_eq_true rfl, Nat.le_of_ble_eq_true rfl⟩) (ag_qS hP hD hSh hU hS) rfl rfl hl.1 rfl (lv_room (Nat.le_of_ble_eq_true rfl)) d_La_law_631 ⟨by omega, by omega⟩) hS (fun _ _ h => h) (fun _ h => h) ?_
                  clear hP hD hSh hS
                  intro x343 u8 t8 H locs ht _ ex343 hB _ _ hS
                  obtain ⟨L, hP, hD, hSh⟩ := hB
                  rw [ht] at hP
                  clear ht
                  subst ex343
                  obtain ⟨zX344, ezX344⟩ : ∃ z : Nat → Nat → Int64, v_La_feed11V_zX zG zO zX zY zA zB j x342 k mm = z := ⟨_, rfl⟩
                  rw [ezX344] at hSh
                  obtain ⟨zY345, ezY345⟩ : ∃ z : Nat → Nat → Int32, v_La_feed11V_zY zG zO zX zY zA zB j x342 k mm = z := ⟨_, rfl⟩
                  rw [ezY345] at hSh
                  obtain ⟨zB346, ezB346⟩ : ∃ z : Nat → Int32, v_La_feed11V_zB zG zO zX zY zA zB j x342 k mm = z := ⟨_, rfl⟩
                  rw [ezB346] at hSh
                  obtain ⟨zQ347, ezQ347⟩ : ∃ z : Int64, v_La_feed11V_zQ zG zO zX zY zA zB j x342 k mm = z := ⟨_, rfl⟩
                  rw [ezQ347] at hSh
                  refine lv_istore hx hb d_La_law_634 hl (by decide) rfl (fun ls hl => ?_)
                  have hl : lv_has ls 8 [(5, .int (nI 0)), (0, .ref b), (1, .ref (aw_r ad 0)), (2, .ref (aw_m ad 0)), (3, .ref (aw_o ad)), (4, .int (nI (6 * t)))] := hl
                  refine lv_aload_n hx hb d_La_law_636 rfl (lv_at hl 3 rfl) ?_
                  refine lv_aload_n hx hb d_La_law_637 rfl (lv_at hl 1 rfl) ?_
                  refine lv_iload hx hb d_La_law_638 (lv_at hl 5 rfl) ?_
                  refine lv_iconst (v := nI 1) hx hb d_La_law_640 (by decide +kernel) ?_
                  refine lv_iadd hx hb d_La_law_641 ?_
                  refine aw_ti (nI_add (6 * t) 1) ?_
                  refine va_sld hx hb hX hbl hbA hS (i := (nI ((6 * t) + 1))) (vp_in_nI (by omega) (by omega)) d_La_law_642 ?_
                  refine aw_ti (y := nI j) (by rw [nI_clamp (by omega)]; exact hc0.symm) ?_
                  refine lv_aload_n hx hb d_La_law_643 rfl (lv_at hl 1 rfl) ?_
                  refine lv_iload hx hb d_La_law_644 (lv_at hl 5 rfl) ?_
                  refine lv_iconst (v := nI 2) hx hb d_La_law_646 (by decide +kernel) ?_
                  refine lv_iadd hx hb d_La_law_647 ?_
                  refine aw_ti (nI_add (6 * t) 2) ?_
                  refine va_sld hx hb hX hbl hbA hS (i := (nI ((6 * t) + 2))) (vp_in_nI (by omega) (by omega)) d_La_law_648 ?_
                  refine aw_ti (y := s2) (by rw [nI_clamp (by omega)]; exact hs2.symm) ?_
                  have hj348 : ∀ x349 : Int32, (if s2 = 0 then nI 0 else nI 1) = x349 → W p l e room_1 s m #[Value.ref b] below meth c H locs ((85 + t) + 1) ((1246 + 6 * t) + 6) (lw_Z below #[Value.ref b] s) (F0 m 657 ls [.int x349, .int (nI j), .ref (aw_m ad 0)]) := by
                    intro x349 ebx349
                    refine lv_aload_n hx hb d_La_law_657 rfl (lv_at hl 1 rfl) ?_
                    refine lv_iload hx hb d_La_law_658 (lv_at hl 5 rfl) ?_
                    refine lv_iconst (v := nI 3) hx hb d_La_law_660 (by decide +kernel) ?_
                    refine lv_iadd hx hb d_La_law_661 ?_
                    refine aw_ti (nI_add (6 * t) 3) ?_
                    refine va_sld hx hb hX hbl hbA hS (i := (nI ((6 * t) + 3))) (vp_in_nI (by omega) (by omega)) d_La_law_662 ?_
                    refine aw_ti (y := nI k) (by rw [nI_clamp (by omega)]; exact hfr.symm) ?_
                    refine lv_aload_n hx hb d_La_law_663 rfl (lv_at hl 1 rfl) ?_
                    refine lv_iload hx hb d_La_law_664 (lv_at hl 5 rfl) ?_
                    refine lv_iconst (v := nI 4) hx hb d_La_law_666 (by decide +kernel) ?_
                    refine lv_iadd hx hb d_La_law_667 ?_
                    refine aw_ti (nI_add (6 * t) 4) ?_
                    refine va_sld hx hb hX hbl hbA hS (i := (nI ((6 * t) + 4))) (vp_in_nI (by omega) (by omega)) d_La_law_668 ?_
                    refine aw_ti (y := nI mm) (by rw [nI_clamp (by omega)]; exact hm0.symm) ?_
                    obtain ⟨_, he350⟩ := zr_M0 hSh
                    refine va_calli (va_runV (As := [.int (nI j), .int x349, .int (nI k), .int (nI mm)]) (rest := []) ⟨hx, hb, hml, hown, hG⟩ (k_Mo_feed1V l D g ad N0 zG zO zX344 zY345 zA zB346 zM zI zL zK zN zF zQ347 j kc x349 k mm hj (by omega) (by omega) (by omega) (by omega) hkc hci) (aw_wV 4 hG gw_12_26 gw_12_23 gw_0_10 gw_12_24 gw_12_25 rfl rfl hd_Mo_feed ⟨Nat.le_of_ble_eq_true rfl, Nat.le_of_ble_eq_true rfl⟩) (ag_qV (va_recv hK hP rfl he350) hP hD hSh hU hS) rfl rfl hl.1 rfl (lv_room (Nat.le_of_ble_eq_true rfl)) d_La_law_669 ⟨by omega, by omega⟩) hS (fun _ _ h => h) (fun _ h => h) ?_
                    clear hP hD hSh hS he350
                    intro x351 u8 t8 H locs ht _ ex351 hB _ _ hS
                    obtain ⟨L, hP, hD, hSh⟩ := hB
                    rw [ht] at hP
                    clear ht
                    obtain ⟨zI352, ezI352⟩ : ∃ z : Nat → Nat → Int32, v_Mo_feed1V_zI zM zI zL j kc x349 k mm = z := ⟨_, rfl⟩
                    rw [ezI352] at hSh
                    obtain ⟨zL353, ezL353⟩ : ∃ z : Nat → Nat → Int64, v_Mo_feed1V_zL zM zI zL j kc x349 k mm = z := ⟨_, rfl⟩
                    rw [ezL353] at hSh
                    have ex351 := ex351.symm
                    refine lv_istore hx hb d_La_law_672 hl (by decide) rfl (fun ls hl => ?_)
                    have hl : lv_has ls 8 [(6, .int x351), (5, .int (nI 0)), (0, .ref b), (1, .ref (aw_r ad 0)), (2, .ref (aw_m ad 0)), (3, .ref (aw_o ad)), (4, .int (nI (6 * t)))] := hl
                    refine lv_goto (tgt := 853) hx hb d_La_law_674 (by decide) ?_
                    refine lv_iinc (k := 6) (v := nI (6 * t + 6)) hx hb d_La_law_853 hl rfl (aw_inc (6 * t) 6 6 (by decide +kernel)) (by decide) rfl (fun ls hl => ?_)
                    have hl : lv_has ls 8 [(4, .int (nI (6 * t + 6))), (6, .int x351), (5, .int (nI 0)), (0, .ref b), (1, .ref (aw_r ad 0)), (2, .ref (aw_m ad 0)), (3, .ref (aw_o ad))] := hl
                    refine lv_goto (tgt := 23) hx hb d_La_law_856 (by decide) ?_
                    have hl := lv_sub hl (l' := [(0, .ref b), (1, .ref (aw_r ad 0)), (2, .ref (aw_m ad 0)), (3, .ref (aw_o ad)), (4, .int (nI (6 * t + 6)))]) [3, 4, 5, 6, 0] rfl
                    refine W.widen (k := 85 + (t + 1)) (n := 1246 + 6 * (t + 1)) (by omega) (by omega) ?_
                    have hR : az_R zG zO zX344 zY345 zA zB346 zM zI352 zL353 := by
                      subst ex351 ezL353 ezI352 ebx349 ezQ347 ezB346 ezY345 ezX344 ebx342
                      exact r_feed11_1 hR hj hs (by omega) (by omega) h0 hk hkc hci hco
                    exact ih (t + 1) zG zO zX344 zY345 zA zB346 zM zI352 zL353 (nI kc) (az_wn kc) (nI 0) zQ347 _ _ L ls (by omega) hP hD hSh hR hS (by first | exact hl | simpa [Nat.mul_add] using hl)
                  refine lv_if_eq (tgt := 656) hx hb d_La_law_649 (by decide) (fun h9 => ?_) (fun h9 => ?_)
                  · refine lv_iconst (v := nI 0) hx hb d_La_law_656 (by decide +kernel) ?_
                    exact hj348 _ (if_pos h9)
                  · refine lv_iconst (v := nI 1) hx hb d_La_law_652 (by decide +kernel) ?_
                    refine lv_goto (tgt := 657) hx hb d_La_law_653 (by decide) ?_
                    exact hj348 _ (if_neg h9)
                refine lv_if_eq (tgt := 617) hx hb d_La_law_610 (by decide) (fun h9 => ?_) (fun h9 => ?_)
                · refine lv_iconst (v := nI 0) hx hb d_La_law_617 (by decide +kernel) ?_
                  exact hj341 _ (if_pos h9)
                · refine lv_iconst (v := nI 1) hx hb d_La_law_613 (by decide +kernel) ?_
                  refine lv_goto (tgt := 618) hx hb d_La_law_614 (by decide) ?_
                  exact hj341 _ (if_neg h9)
          · refine lv_aload_n hx hb d_La_law_597 rfl (lv_at hl 1 rfl) ?_
            refine lv_aload_n hx hb d_La_law_598 rfl (lv_at hl 0 rfl) ?_
            refine lv_iload hx hb d_La_law_599 (lv_at hl 4 rfl) ?_
            refine lv_iconst (v := nI 1) hx hb d_La_law_601 (by decide +kernel) ?_
            refine lv_iadd hx hb d_La_law_602 ?_
            refine aw_ti (nI_add (6 * t) 1) ?_
            refine va_sld hx hb hX hbl hbA hS (i := (nI ((6 * t) + 1))) (vp_in_nI (by omega) (by omega)) d_La_law_603 ?_
            refine aw_ti (y := nI j) (by rw [nI_clamp (by omega)]; exact hc0.symm) ?_
            refine lv_aload_n hx hb d_La_law_604 rfl (lv_at hl 0 rfl) ?_
            refine lv_iload hx hb d_La_law_605 (lv_at hl 4 rfl) ?_
            refine lv_iconst (v := nI 2) hx hb d_La_law_607 (by decide +kernel) ?_
            refine lv_iadd hx hb d_La_law_608 ?_
            refine aw_ti (nI_add (6 * t) 2) ?_
            refine va_sld hx hb hX hbl hbA hS (i := (nI ((6 * t) + 2))) (vp_in_nI (by omega) (by omega)) d_La_law_609 ?_
            refine aw_ti (y := s2) (by rw [nI_clamp (by omega)]; exact hs2.symm) ?_
            have hj354 : ∀ x355 : Int32, (if s2 = 0 then nI 0 else nI 1) = x355 → W p l e room_1 s m #[Value.ref b] below meth c H locs (85 + t) (1246 + 6 * t) (lw_Z below #[Value.ref b] s) (F0 m 618 ls [.int x355, .int (nI j), .ref (aw_r ad 0)]) := by
              intro x355 ebx355
              refine lv_aload_n hx hb d_La_law_618 rfl (lv_at hl 0 rfl) ?_
              refine lv_iload hx hb d_La_law_619 (lv_at hl 4 rfl) ?_
              refine lv_iconst (v := nI 3) hx hb d_La_law_621 (by decide +kernel) ?_
              refine lv_iadd hx hb d_La_law_622 ?_
              refine aw_ti (nI_add (6 * t) 3) ?_
              refine va_sld hx hb hX hbl hbA hS (i := (nI ((6 * t) + 3))) (vp_in_nI (by omega) (by omega)) d_La_law_623 ?_
              refine aw_ti (y := nI k) (by rw [nI_clamp (by omega)]; exact hfr.symm) ?_
              refine lv_aload_n hx hb d_La_law_624 rfl (lv_at hl 0 rfl) ?_
              refine lv_iload hx hb d_La_law_625 (lv_at hl 4 rfl) ?_
              refine lv_iconst (v := nI 4) hx hb d_La_law_627 (by decide +kernel) ?_
              refine lv_iadd hx hb d_La_law_628 ?_
              refine aw_ti (nI_add (6 * t) 4) ?_
              refine va_sld hx hb hX hbl hbA hS (i := (nI ((6 * t) + 4))) (vp_in_nI (by omega) (by omega)) d_La_law_629 ?_
              refine aw_ti (y := nI mm) (by rw [nI_clamp (by omega)]; exact hm0.symm) ?_
              refine lv_aload_n hx hb d_La_law_630 rfl (lv_at hl 3 rfl) ?_
              refine va_calli (vx_runSW (As := [.ref (aw_r ad 0), .int (nI j), .int x355, .int (nI k), .int (nI mm), .ref (aw_o ad)]) (rest := []) ⟨hx, hb, hml, hown, hG⟩ (k_La_feedXs1V l hst D g ad N0 zG zO zX zY zA zB zM zI zL zK zN zF zQ j x355 k mm hj (by omega) (by omega) (by omega)) (aw_wW 6 hG gw_7_42 gw_7_40 gw_0_0 gw_7_41 rfl rfl hd_La_feed ⟨Nat.le_of_ble_eq_true rfl, Nat.le_of_ble_eq_true rfl⟩) (ag_qS hP hD hSh hU hS) rfl rfl hl.1 rfl (lv_room (Nat.le_of_ble_eq_true rfl)) d_La_law_631 ⟨by omega, by omega⟩) hS (fun _ _ h => h) (fun _ h => h) ?_
              clear hP hD hSh hS
              intro x356 u8 t8 H locs ht _ ex356 hB _ _ hS
              obtain ⟨L, hP, hD, hSh⟩ := hB
              rw [ht] at hP
              clear ht
              subst ex356
              refine lv_istore hx hb d_La_law_634 hl (by decide) rfl (fun ls hl => ?_)
              have hl : lv_has ls 8 [(5, .int (nI 2)), (0, .ref b), (1, .ref (aw_r ad 0)), (2, .ref (aw_m ad 0)), (3, .ref (aw_o ad)), (4, .int (nI (6 * t)))] := hl
              refine lv_aload_n hx hb d_La_law_636 rfl (lv_at hl 3 rfl) ?_
              refine lv_aload_n hx hb d_La_law_637 rfl (lv_at hl 1 rfl) ?_
              refine lv_iload hx hb d_La_law_638 (lv_at hl 5 rfl) ?_
              refine lv_iconst (v := nI 1) hx hb d_La_law_640 (by decide +kernel) ?_
              refine lv_iadd hx hb d_La_law_641 ?_
              refine aw_ti (nI_add (6 * t) 1) ?_
              refine va_sld hx hb hX hbl hbA hS (i := (nI ((6 * t) + 1))) (vp_in_nI (by omega) (by omega)) d_La_law_642 ?_
              refine aw_ti (y := nI j) (by rw [nI_clamp (by omega)]; exact hc0.symm) ?_
              refine lv_aload_n hx hb d_La_law_643 rfl (lv_at hl 1 rfl) ?_
              refine lv_iload hx hb d_La_law_644 (lv_at hl 5 rfl) ?_
              refine lv_iconst (v := nI 2) hx hb d_La_law_646 (by decide +kernel) ?_
              refine lv_iadd hx hb d_La_law_647 ?_
              refine aw_ti (nI_add (6 * t) 2) ?_
              refine va_sld hx hb hX hbl hbA hS (i := (nI ((6 * t) + 2))) (vp_in_nI (by omega) (by omega)) d_La_law_648 ?_
              refine aw_ti (y := s2) (by rw [nI_clamp (by omega)]; exact hs2.symm) ?_
              have hj357 : ∀ x358 : Int32, (if s2 = 0 then nI 0 else nI 1) = x358 → W p l e room_1 s m #[Value.ref b] below meth c H locs ((85 + t) + 1) ((1246 + 6 * t) + 6) (lw_Z below #[Value.ref b] s) (F0 m 657 ls [.int x358, .int (nI j), .ref (aw_m ad 0)]) := by
                intro x358 ebx358
                refine lv_aload_n hx hb d_La_law_657 rfl (lv_at hl 1 rfl) ?_
                refine lv_iload hx hb d_La_law_658 (lv_at hl 5 rfl) ?_
                refine lv_iconst (v := nI 3) hx hb d_La_law_660 (by decide +kernel) ?_
                refine lv_iadd hx hb d_La_law_661 ?_
                refine aw_ti (nI_add (6 * t) 3) ?_
                refine va_sld hx hb hX hbl hbA hS (i := (nI ((6 * t) + 3))) (vp_in_nI (by omega) (by omega)) d_La_law_662 ?_
                refine aw_ti (y := nI k) (by rw [nI_clamp (by omega)]; exact hfr.symm) ?_
                refine lv_aload_n hx hb d_La_law_663 rfl (lv_at hl 1 rfl) ?_
                refine lv_iload hx hb d_La_law_664 (lv_at hl 5 rfl) ?_
                refine lv_iconst (v := nI 4) hx hb d_La_law_666 (by decide +kernel) ?_
                refine lv_iadd hx hb d_La_law_667 ?_
                refine aw_ti (nI_add (6 * t) 4) ?_
                refine va_sld hx hb hX hbl hbA hS (i := (nI ((6 * t) + 4))) (vp_in_nI (by omega) (by omega)) d_La_law_668 ?_
                refine aw_ti (y := nI mm) (by rw [nI_clamp (by omega)]; exact hm0.symm) ?_
                obtain ⟨_, he359⟩ := zr_M0 hSh
                refine va_calli (va_runV (As := [.int (nI j), .int x358, .int (nI k), .int (nI mm)]) (rest := []) ⟨hx, hb, hml, hown, hG⟩ (k_Mo_feedXsV l D g ad N0 zG zO zX zY zA zB zM zI zL zK zN zF zQ j x358 k mm hj (by omega) (by omega)) (aw_wV 4 hG gw_12_26 gw_12_23 gw_0_10 gw_12_24 gw_12_25 rfl rfl hd_Mo_feed ⟨Nat.le_of_ble_eq_true rfl, Nat.le_of_ble_eq_true rfl⟩) (ag_qV (va_recv hK hP rfl he359) hP hD hSh hU hS) rfl rfl hl.1 rfl (lv_room (Nat.le_of_ble_eq_true rfl)) d_La_law_669 ⟨by omega, by omega⟩) hS (fun _ _ h => h) (fun _ h => h) ?_
                clear hP hD hSh hS he359
                intro x360 u8 t8 H locs ht _ ex360 hB _ _ hS
                obtain ⟨L, hP, hD, hSh⟩ := hB
                rw [ht] at hP
                clear ht
                have ex360 := ex360.symm
                refine lv_istore hx hb d_La_law_672 hl (by decide) rfl (fun ls hl => ?_)
                have hl : lv_has ls 8 [(6, .int x360), (5, .int (nI 2)), (0, .ref b), (1, .ref (aw_r ad 0)), (2, .ref (aw_m ad 0)), (3, .ref (aw_o ad)), (4, .int (nI (6 * t)))] := hl
                refine lv_goto (tgt := 853) hx hb d_La_law_674 (by decide) ?_
                refine lv_iinc (k := 6) (v := nI (6 * t + 6)) hx hb d_La_law_853 hl rfl (aw_inc (6 * t) 6 6 (by decide +kernel)) (by decide) rfl (fun ls hl => ?_)
                have hl : lv_has ls 8 [(4, .int (nI (6 * t + 6))), (6, .int x360), (5, .int (nI 2)), (0, .ref b), (1, .ref (aw_r ad 0)), (2, .ref (aw_m ad 0)), (3, .ref (aw_o ad))] := hl
                refine lv_goto (tgt := 23) hx hb d_La_law_856 (by decide) ?_
                have hl := lv_sub hl (l' := [(0, .ref b), (1, .ref (aw_r ad 0)), (2, .ref (aw_m ad 0)), (3, .ref (aw_o ad)), (4, .int (nI (6 * t + 6)))]) [3, 4, 5, 6, 0] rfl
                refine W.widen (k := 85 + (t + 1)) (n := 1246 + 6 * (t + 1)) (by omega) (by omega) ?_
                exact ih (t + 1) zG zO zX zY zA zB zM zI zL zK zN (nI 2) zQ _ _ L ls (by omega) hP hD hSh hR hS (by first | exact hl | simpa [Nat.mul_add] using hl)
              refine lv_if_eq (tgt := 656) hx hb d_La_law_649 (by decide) (fun h9 => ?_) (fun h9 => ?_)
              · refine lv_iconst (v := nI 0) hx hb d_La_law_656 (by decide +kernel) ?_
                exact hj357 _ (if_pos h9)
              · refine lv_iconst (v := nI 1) hx hb d_La_law_652 (by decide +kernel) ?_
                refine lv_goto (tgt := 657) hx hb d_La_law_653 (by decide) ?_
                exact hj357 _ (if_neg h9)
            refine lv_if_eq (tgt := 617) hx hb d_La_law_610 (by decide) (fun h9 => ?_) (fun h9 => ?_)
            · refine lv_iconst (v := nI 0) hx hb d_La_law_617 (by decide +kernel) ?_
              exact hj354 _ (if_pos h9)
            · refine lv_iconst (v := nI 1) hx hb d_La_law_613 (by decide +kernel) ?_
              refine lv_goto (tgt := 618) hx hb d_La_law_614 (by decide) ?_
              exact hj354 _ (if_neg h9)
    · refine aw_ti (y := nI 10) (by rw [hs3]) ?_
      refine lv_tableIn (tgt := 677) (off := 637) hx hb d_La_law_40 (by decide +kernel) (by decide +kernel) (by decide +kernel) (by decide) ?_
      obtain ⟨c0, hc0⟩ : ∃ z : Int32, z = xs (6 * t + 1) := ⟨_, rfl⟩
      obtain ⟨s2, hs2⟩ : ∃ z : Int32, z = xs (6 * t + 2) := ⟨_, rfl⟩
      obtain ⟨s3, hs3⟩ : ∃ z : Int32, z = xs (6 * t + 3) := ⟨_, rfl⟩
      rcases aw_rng 4 (by decide) c0 with hc | ⟨j, hj, rfl⟩
      · refine lv_aload_n hx hb d_La_law_677 rfl (lv_at hl 1 rfl) ?_
        refine lv_aload_n hx hb d_La_law_678 rfl (lv_at hl 0 rfl) ?_
        refine lv_iload hx hb d_La_law_679 (lv_at hl 4 rfl) ?_
        refine lv_iconst (v := nI 1) hx hb d_La_law_681 (by decide +kernel) ?_
        refine lv_iadd hx hb d_La_law_682 ?_
        refine aw_ti (nI_add (6 * t) 1) ?_
        refine va_sld hx hb hX hbl hbA hS (i := (nI ((6 * t) + 1))) (vp_in_nI (by omega) (by omega)) d_La_law_683 ?_
        refine aw_ti (y := c0) (by rw [nI_clamp (by omega)]; exact hc0.symm) ?_
        refine lv_aload_n hx hb d_La_law_684 rfl (lv_at hl 0 rfl) ?_
        refine lv_iload hx hb d_La_law_685 (lv_at hl 4 rfl) ?_
        refine lv_iconst (v := nI 2) hx hb d_La_law_687 (by decide +kernel) ?_
        refine lv_iadd hx hb d_La_law_688 ?_
        refine aw_ti (nI_add (6 * t) 2) ?_
        refine va_sld hx hb hX hbl hbA hS (i := (nI ((6 * t) + 2))) (vp_in_nI (by omega) (by omega)) d_La_law_689 ?_
        refine aw_ti (y := s2) (by rw [nI_clamp (by omega)]; exact hs2.symm) ?_
        refine lv_i2l hx hb d_La_law_690 rfl ?_
        refine ag_topl (fun y361 ey361 => ?_)
        refine lv_bipush (v := nI 32) hx hb d_La_law_691 (by decide +kernel) ?_
        refine lv_lshl hx hb d_La_law_693 rfl ?_
        refine ag_topl (fun y362 ey362 => ?_)
        refine lv_aload_n hx hb d_La_law_694 rfl (lv_at hl 0 rfl) ?_
        refine lv_iload hx hb d_La_law_695 (lv_at hl 4 rfl) ?_
        refine lv_iconst (v := nI 3) hx hb d_La_law_697 (by decide +kernel) ?_
        refine lv_iadd hx hb d_La_law_698 ?_
        refine aw_ti (nI_add (6 * t) 3) ?_
        refine va_sld hx hb hX hbl hbA hS (i := (nI ((6 * t) + 3))) (vp_in_nI (by omega) (by omega)) d_La_law_699 ?_
        refine aw_ti (y := s3) (by rw [nI_clamp (by omega)]; exact hs3.symm) ?_
        refine lv_i2l hx hb d_La_law_700 rfl ?_
        refine ag_topl (fun y363 ey363 => ?_)
        refine lv_ldc2 (v := 4294967295) hx hb hown (hG _ gw_13_3) d_La_law_701 ?_
        refine lv_land hx hb d_La_law_704 ?_
        refine ag_topl (fun y364 ey364 => ?_)
        refine lv_lor hx hb d_La_law_705 ?_
        refine ag_topl (fun y365 ey365 => ?_)
        refine va_calli (vx_runSW (As := [.ref (aw_r ad 0), .int c0, .long y365]) (rest := []) ⟨hx, hb, hml, hown, hG⟩ (k_La_seekXcV l hst D g ad N0 zG zO zX zY zA zB zM zI zL zK zN zF zQ c0 y365 hc) (aw_wW 3 hG gw_8_26 gw_8_24 gw_0_0 gw_8_25 rfl rfl hd_La_seek ⟨Nat.le_of_ble_eq_true rfl, Nat.le_of_ble_eq_true rfl⟩) (ag_qS hP hD hSh hU hS) rfl rfl hl.1 rfl (lv_room (Nat.le_of_ble_eq_true rfl)) d_La_law_706 ⟨by omega, by omega⟩) hS (fun _ _ h => h) (fun _ h => h) ?_
        clear hP hD hSh hS
        intro x366 u8 t8 H locs ht _ ex366 hB _ _ hS
        obtain ⟨L, hP, hD, hSh⟩ := hB
        rw [ht] at hP
        clear ht
        subst ex366
        refine lv_istore hx hb d_La_law_709 hl (by decide) rfl (fun ls hl => ?_)
        have hl : lv_has ls 8 [(5, .int (nI 1)), (0, .ref b), (1, .ref (aw_r ad 0)), (2, .ref (aw_m ad 0)), (3, .ref (aw_o ad)), (4, .int (nI (6 * t)))] := hl
        refine lv_aload_n hx hb d_La_law_711 rfl (lv_at hl 3 rfl) ?_
        refine lv_aload_n hx hb d_La_law_712 rfl (lv_at hl 1 rfl) ?_
        refine lv_iload hx hb d_La_law_713 (lv_at hl 5 rfl) ?_
        refine lv_iconst (v := nI 1) hx hb d_La_law_715 (by decide +kernel) ?_
        refine lv_iadd hx hb d_La_law_716 ?_
        refine aw_ti (nI_add (6 * t) 1) ?_
        refine va_sld hx hb hX hbl hbA hS (i := (nI ((6 * t) + 1))) (vp_in_nI (by omega) (by omega)) d_La_law_717 ?_
        refine aw_ti (y := c0) (by rw [nI_clamp (by omega)]; exact hc0.symm) ?_
        refine lv_aload_n hx hb d_La_law_718 rfl (lv_at hl 1 rfl) ?_
        refine lv_iload hx hb d_La_law_719 (lv_at hl 5 rfl) ?_
        refine lv_iconst (v := nI 2) hx hb d_La_law_721 (by decide +kernel) ?_
        refine lv_iadd hx hb d_La_law_722 ?_
        refine aw_ti (nI_add (6 * t) 2) ?_
        refine va_sld hx hb hX hbl hbA hS (i := (nI ((6 * t) + 2))) (vp_in_nI (by omega) (by omega)) d_La_law_723 ?_
        refine aw_ti (y := s2) (by rw [nI_clamp (by omega)]; exact hs2.symm) ?_
        refine lv_i2l hx hb d_La_law_724 rfl ?_
        refine ag_topl (fun y367 ey367 => ?_)
        refine lv_bipush (v := nI 32) hx hb d_La_law_725 (by decide +kernel) ?_
        refine lv_lshl hx hb d_La_law_727 rfl ?_
        refine ag_topl (fun y368 ey368 => ?_)
        refine lv_aload_n hx hb d_La_law_728 rfl (lv_at hl 1 rfl) ?_
        refine lv_iload hx hb d_La_law_729 (lv_at hl 5 rfl) ?_
        refine lv_iconst (v := nI 3) hx hb d_La_law_731 (by decide +kernel) ?_
        refine lv_iadd hx hb d_La_law_732 ?_
        refine aw_ti (nI_add (6 * t) 3) ?_
        refine va_sld hx hb hX hbl hbA hS (i := (nI ((6 * t) + 3))) (vp_in_nI (by omega) (by omega)) d_La_law_733 ?_
        refine aw_ti (y := s3) (by rw [nI_clamp (by omega)]; exact hs3.symm) ?_
        refine lv_i2l hx hb d_La_law_734 rfl ?_
        refine ag_topl (fun y369 ey369 => ?_)
        refine lv_ldc2 (v := 4294967295) hx hb hown (hG _ gw_13_3) d_La_law_735 ?_
        refine lv_land hx hb d_La_law_738 ?_
        refine ag_topl (fun y370 ey370 => ?_)
        refine lv_lor hx hb d_La_law_739 ?_
        refine ag_topl (fun y371 ey371 => ?_)
        obtain ⟨_, he372⟩ := zr_M0 hSh
        refine va_callv (va_runV (As := [.int c0, .long y371]) (rest := []) ⟨hx, hb, hml, hown, hG⟩ (k_Mo_seekXcV l D g ad N0 zG zO zX zY zA zB zM zI zL zK zN zF zQ c0 y371 hc) (aw_wV 2 hG gw_12_45 gw_12_42 gw_0_10 gw_12_43 gw_12_44 rfl rfl hd_Mo_seek ⟨Nat.le_of_ble_eq_true rfl, Nat.le_of_ble_eq_true rfl⟩) (ag_qV (va_recv hK hP rfl he372) hP hD hSh hU hS) rfl rfl hl.1 rfl (lv_room (Nat.le_of_ble_eq_true rfl)) d_La_law_740 ⟨by omega, by omega⟩) hS (fun _ _ h => h) (fun _ h => h) ?_
        clear hP hD hSh hS he372
        intro u8 t8 H locs ht _ _ hB _ _ hS
        obtain ⟨L, hP, hD, hSh⟩ := hB
        rw [ht] at hP
        clear ht
        refine lv_goto (tgt := 853) hx hb d_La_law_743 (by decide) ?_
        refine lv_iinc (k := 5) (v := nI (6 * t + 6)) hx hb d_La_law_853 hl rfl (aw_inc (6 * t) 6 6 (by decide +kernel)) (by decide) rfl (fun ls hl => ?_)
        have hl : lv_has ls 8 [(4, .int (nI (6 * t + 6))), (5, .int (nI 1)), (0, .ref b), (1, .ref (aw_r ad 0)), (2, .ref (aw_m ad 0)), (3, .ref (aw_o ad))] := hl
        refine lv_goto (tgt := 23) hx hb d_La_law_856 (by decide) ?_
        have hl := lv_sub hl (l' := [(0, .ref b), (1, .ref (aw_r ad 0)), (2, .ref (aw_m ad 0)), (3, .ref (aw_o ad)), (4, .int (nI (6 * t + 6)))]) [2, 3, 4, 5, 0] rfl
        refine W.widen (k := 85 + (t + 1)) (n := 1246 + 6 * (t + 1)) (by omega) (by omega) ?_
        exact ih (t + 1) zG zO zX zY zA zB zM zI zL zK zN (nI 1) zQ _ _ L ls (by omega) hP hD hSh hR hS (by first | exact hl | simpa [Nat.mul_add] using hl)
      · have hgj := hSh.2.2.2.2.1 j hj
        have hq1 : (zM j).1 = (zG j).1 := by rw [hR.1 j hj]
        have hq2 : (zM j).2 = (zG j).2 := by rw [hR.1 j hj]
        by_cases hs : (zG j).1 = 3 ∧ (zG j).2 = 4
        · refine lv_aload_n hx hb d_La_law_677 rfl (lv_at hl 1 rfl) ?_
          refine lv_aload_n hx hb d_La_law_678 rfl (lv_at hl 0 rfl) ?_
          refine lv_iload hx hb d_La_law_679 (lv_at hl 4 rfl) ?_
          refine lv_iconst (v := nI 1) hx hb d_La_law_681 (by decide +kernel) ?_
          refine lv_iadd hx hb d_La_law_682 ?_
          refine aw_ti (nI_add (6 * t) 1) ?_
          refine va_sld hx hb hX hbl hbA hS (i := (nI ((6 * t) + 1))) (vp_in_nI (by omega) (by omega)) d_La_law_683 ?_
          refine aw_ti (y := nI j) (by rw [nI_clamp (by omega)]; exact hc0.symm) ?_
          refine lv_aload_n hx hb d_La_law_684 rfl (lv_at hl 0 rfl) ?_
          refine lv_iload hx hb d_La_law_685 (lv_at hl 4 rfl) ?_
          refine lv_iconst (v := nI 2) hx hb d_La_law_687 (by decide +kernel) ?_
          refine lv_iadd hx hb d_La_law_688 ?_
          refine aw_ti (nI_add (6 * t) 2) ?_
          refine va_sld hx hb hX hbl hbA hS (i := (nI ((6 * t) + 2))) (vp_in_nI (by omega) (by omega)) d_La_law_689 ?_
          refine aw_ti (y := s2) (by rw [nI_clamp (by omega)]; exact hs2.symm) ?_
          refine lv_i2l hx hb d_La_law_690 rfl ?_
          refine ag_topl (fun y373 ey373 => ?_)
          refine lv_bipush (v := nI 32) hx hb d_La_law_691 (by decide +kernel) ?_
          refine lv_lshl hx hb d_La_law_693 rfl ?_
          refine ag_topl (fun y374 ey374 => ?_)
          refine lv_aload_n hx hb d_La_law_694 rfl (lv_at hl 0 rfl) ?_
          refine lv_iload hx hb d_La_law_695 (lv_at hl 4 rfl) ?_
          refine lv_iconst (v := nI 3) hx hb d_La_law_697 (by decide +kernel) ?_
          refine lv_iadd hx hb d_La_law_698 ?_
          refine aw_ti (nI_add (6 * t) 3) ?_
          refine va_sld hx hb hX hbl hbA hS (i := (nI ((6 * t) + 3))) (vp_in_nI (by omega) (by omega)) d_La_law_699 ?_
          refine aw_ti (y := s3) (by rw [nI_clamp (by omega)]; exact hs3.symm) ?_
          refine lv_i2l hx hb d_La_law_700 rfl ?_
          refine ag_topl (fun y375 ey375 => ?_)
          refine lv_ldc2 (v := 4294967295) hx hb hown (hG _ gw_13_3) d_La_law_701 ?_
          refine lv_land hx hb d_La_law_704 ?_
          refine ag_topl (fun y376 ey376 => ?_)
          refine lv_lor hx hb d_La_law_705 ?_
          refine ag_topl (fun y377 ey377 => ?_)
          refine va_calli (vx_runSW (As := [.ref (aw_r ad 0), .int (nI j), .long y377]) (rest := []) ⟨hx, hb, hml, hown, hG⟩ (k_La_seek1V l hst D g ad N0 zG zO zX zY zA zB zM zI zL zK zN zF zQ j y377 hj (by omega)) (aw_wW 3 hG gw_8_26 gw_8_24 gw_0_0 gw_8_25 rfl rfl hd_La_seek ⟨Nat.le_of_ble_eq_true rfl, Nat.le_of_ble_eq_true rfl⟩) (ag_qS hP hD hSh hU hS) rfl rfl hl.1 rfl (lv_room (Nat.le_of_ble_eq_true rfl)) d_La_law_706 ⟨by omega, by omega⟩) hS (fun _ _ h => h) (fun _ h => h) ?_
          clear hP hD hSh hS
          intro x378 u8 t8 H locs ht _ ex378 hB _ _ hS
          obtain ⟨L, hP, hD, hSh⟩ := hB
          rw [ht] at hP
          clear ht
          subst ex378
          obtain ⟨zX379, ezX379⟩ : ∃ z : Nat → Nat → Int64, v_La_seek1V_zX zX zY j y377 = z := ⟨_, rfl⟩
          rw [ezX379] at hSh
          obtain ⟨zY380, ezY380⟩ : ∃ z : Nat → Nat → Int32, v_La_seek1V_zY zX zY j y377 = z := ⟨_, rfl⟩
          rw [ezY380] at hSh
          refine lv_istore hx hb d_La_law_709 hl (by decide) rfl (fun ls hl => ?_)
          have hl : lv_has ls 8 [(5, .int (nI 0)), (0, .ref b), (1, .ref (aw_r ad 0)), (2, .ref (aw_m ad 0)), (3, .ref (aw_o ad)), (4, .int (nI (6 * t)))] := hl
          refine lv_aload_n hx hb d_La_law_711 rfl (lv_at hl 3 rfl) ?_
          refine lv_aload_n hx hb d_La_law_712 rfl (lv_at hl 1 rfl) ?_
          refine lv_iload hx hb d_La_law_713 (lv_at hl 5 rfl) ?_
          refine lv_iconst (v := nI 1) hx hb d_La_law_715 (by decide +kernel) ?_
          refine lv_iadd hx hb d_La_law_716 ?_
          refine aw_ti (nI_add (6 * t) 1) ?_
          refine va_sld hx hb hX hbl hbA hS (i := (nI ((6 * t) + 1))) (vp_in_nI (by omega) (by omega)) d_La_law_717 ?_
          refine aw_ti (y := nI j) (by rw [nI_clamp (by omega)]; exact hc0.symm) ?_
          refine lv_aload_n hx hb d_La_law_718 rfl (lv_at hl 1 rfl) ?_
          refine lv_iload hx hb d_La_law_719 (lv_at hl 5 rfl) ?_
          refine lv_iconst (v := nI 2) hx hb d_La_law_721 (by decide +kernel) ?_
          refine lv_iadd hx hb d_La_law_722 ?_
          refine aw_ti (nI_add (6 * t) 2) ?_
          refine va_sld hx hb hX hbl hbA hS (i := (nI ((6 * t) + 2))) (vp_in_nI (by omega) (by omega)) d_La_law_723 ?_
          refine aw_ti (y := s2) (by rw [nI_clamp (by omega)]; exact hs2.symm) ?_
          refine lv_i2l hx hb d_La_law_724 rfl ?_
          refine ag_topl (fun y381 ey381 => ?_)
          refine lv_bipush (v := nI 32) hx hb d_La_law_725 (by decide +kernel) ?_
          refine lv_lshl hx hb d_La_law_727 rfl ?_
          refine ag_topl (fun y382 ey382 => ?_)
          refine lv_aload_n hx hb d_La_law_728 rfl (lv_at hl 1 rfl) ?_
          refine lv_iload hx hb d_La_law_729 (lv_at hl 5 rfl) ?_
          refine lv_iconst (v := nI 3) hx hb d_La_law_731 (by decide +kernel) ?_
          refine lv_iadd hx hb d_La_law_732 ?_
          refine aw_ti (nI_add (6 * t) 3) ?_
          refine va_sld hx hb hX hbl hbA hS (i := (nI ((6 * t) + 3))) (vp_in_nI (by omega) (by omega)) d_La_law_733 ?_
          refine aw_ti (y := s3) (by rw [nI_clamp (by omega)]; exact hs3.symm) ?_
          refine lv_i2l hx hb d_La_law_734 rfl ?_
          refine ag_topl (fun y383 ey383 => ?_)
          refine lv_ldc2 (v := 4294967295) hx hb hown (hG _ gw_13_3) d_La_law_735 ?_
          refine lv_land hx hb d_La_law_738 ?_
          refine ag_topl (fun y384 ey384 => ?_)
          refine lv_lor hx hb d_La_law_739 ?_
          refine ag_topl (fun y385 ey385 => ?_)
          obtain ⟨_, he386⟩ := zr_M0 hSh
          refine va_callv (va_runV (As := [.int (nI j), .long y385]) (rest := []) ⟨hx, hb, hml, hown, hG⟩ (k_Mo_seek1V l D g ad N0 zG zO zX379 zY380 zA zB zM zI zL zK zN zF zQ j y385 hj (by omega)) (aw_wV 2 hG gw_12_45 gw_12_42 gw_0_10 gw_12_43 gw_12_44 rfl rfl hd_Mo_seek ⟨Nat.le_of_ble_eq_true rfl, Nat.le_of_ble_eq_true rfl⟩) (ag_qV (va_recv hK hP rfl he386) hP hD hSh hU hS) rfl rfl hl.1 rfl (lv_room (Nat.le_of_ble_eq_true rfl)) d_La_law_740 ⟨by omega, by omega⟩) hS (fun _ _ h => h) (fun _ h => h) ?_
          clear hP hD hSh hS he386
          intro u8 t8 H locs ht _ _ hB _ _ hS
          obtain ⟨L, hP, hD, hSh⟩ := hB
          rw [ht] at hP
          clear ht
          obtain ⟨zI387, ezI387⟩ : ∃ z : Nat → Nat → Int32, v_Mo_seek1V_zI zI zL j y385 = z := ⟨_, rfl⟩
          rw [ezI387] at hSh
          obtain ⟨zL388, ezL388⟩ : ∃ z : Nat → Nat → Int64, v_Mo_seek1V_zL zI zL j y385 = z := ⟨_, rfl⟩
          rw [ezL388] at hSh
          refine lv_goto (tgt := 853) hx hb d_La_law_743 (by decide) ?_
          refine lv_iinc (k := 5) (v := nI (6 * t + 6)) hx hb d_La_law_853 hl rfl (aw_inc (6 * t) 6 6 (by decide +kernel)) (by decide) rfl (fun ls hl => ?_)
          have hl : lv_has ls 8 [(4, .int (nI (6 * t + 6))), (5, .int (nI 0)), (0, .ref b), (1, .ref (aw_r ad 0)), (2, .ref (aw_m ad 0)), (3, .ref (aw_o ad))] := hl
          refine lv_goto (tgt := 23) hx hb d_La_law_856 (by decide) ?_
          have hl := lv_sub hl (l' := [(0, .ref b), (1, .ref (aw_r ad 0)), (2, .ref (aw_m ad 0)), (3, .ref (aw_o ad)), (4, .int (nI (6 * t + 6)))]) [2, 3, 4, 5, 0] rfl
          refine W.widen (k := 85 + (t + 1)) (n := 1246 + 6 * (t + 1)) (by omega) (by omega) ?_
          have hR : az_R zG zO zX379 zY380 zA zB zM zI387 zL388 := by
            subst ezL388 ezI387 ey385 ey384 ey383 ey382 ey381 ezY380 ezX379 ey377 ey376 ey375 ey374 ey373
            exact r_seek1 hR hj hs
          exact ih (t + 1) zG zO zX379 zY380 zA zB zM zI387 zL388 zK zN (nI 0) zQ _ _ L ls (by omega) hP hD hSh hR hS (by first | exact hl | simpa [Nat.mul_add] using hl)
        · refine lv_aload_n hx hb d_La_law_677 rfl (lv_at hl 1 rfl) ?_
          refine lv_aload_n hx hb d_La_law_678 rfl (lv_at hl 0 rfl) ?_
          refine lv_iload hx hb d_La_law_679 (lv_at hl 4 rfl) ?_
          refine lv_iconst (v := nI 1) hx hb d_La_law_681 (by decide +kernel) ?_
          refine lv_iadd hx hb d_La_law_682 ?_
          refine aw_ti (nI_add (6 * t) 1) ?_
          refine va_sld hx hb hX hbl hbA hS (i := (nI ((6 * t) + 1))) (vp_in_nI (by omega) (by omega)) d_La_law_683 ?_
          refine aw_ti (y := nI j) (by rw [nI_clamp (by omega)]; exact hc0.symm) ?_
          refine lv_aload_n hx hb d_La_law_684 rfl (lv_at hl 0 rfl) ?_
          refine lv_iload hx hb d_La_law_685 (lv_at hl 4 rfl) ?_
          refine lv_iconst (v := nI 2) hx hb d_La_law_687 (by decide +kernel) ?_
          refine lv_iadd hx hb d_La_law_688 ?_
          refine aw_ti (nI_add (6 * t) 2) ?_
          refine va_sld hx hb hX hbl hbA hS (i := (nI ((6 * t) + 2))) (vp_in_nI (by omega) (by omega)) d_La_law_689 ?_
          refine aw_ti (y := s2) (by rw [nI_clamp (by omega)]; exact hs2.symm) ?_
          refine lv_i2l hx hb d_La_law_690 rfl ?_
          refine ag_topl (fun y389 ey389 => ?_)
          refine lv_bipush (v := nI 32) hx hb d_La_law_691 (by decide +kernel) ?_
          refine lv_lshl hx hb d_La_law_693 rfl ?_
          refine ag_topl (fun y390 ey390 => ?_)
          refine lv_aload_n hx hb d_La_law_694 rfl (lv_at hl 0 rfl) ?_
          refine lv_iload hx hb d_La_law_695 (lv_at hl 4 rfl) ?_
          refine lv_iconst (v := nI 3) hx hb d_La_law_697 (by decide +kernel) ?_
          refine lv_iadd hx hb d_La_law_698 ?_
          refine aw_ti (nI_add (6 * t) 3) ?_
          refine va_sld hx hb hX hbl hbA hS (i := (nI ((6 * t) + 3))) (vp_in_nI (by omega) (by omega)) d_La_law_699 ?_
          refine aw_ti (y := s3) (by rw [nI_clamp (by omega)]; exact hs3.symm) ?_
          refine lv_i2l hx hb d_La_law_700 rfl ?_
          refine ag_topl (fun y391 ey391 => ?_)
          refine lv_ldc2 (v := 4294967295) hx hb hown (hG _ gw_13_3) d_La_law_701 ?_
          refine lv_land hx hb d_La_law_704 ?_
          refine ag_topl (fun y392 ey392 => ?_)
          refine lv_lor hx hb d_La_law_705 ?_
          refine ag_topl (fun y393 ey393 => ?_)
          refine va_calli (vx_runSW (As := [.ref (aw_r ad 0), .int (nI j), .long y393]) (rest := []) ⟨hx, hb, hml, hown, hG⟩ (k_La_seekXsV l hst D g ad N0 zG zO zX zY zA zB zM zI zL zK zN zF zQ j y393 hj (by omega)) (aw_wW 3 hG gw_8_26 gw_8_24 gw_0_0 gw_8_25 rfl rfl hd_La_seek ⟨Nat.le_of_ble_eq_true rfl, Nat.le_of_ble_eq_true rfl⟩) (ag_qS hP hD hSh hU hS) rfl rfl hl.1 rfl (lv_room (Nat.le_of_ble_eq_true rfl)) d_La_law_706 ⟨by omega, by omega⟩) hS (fun _ _ h => h) (fun _ h => h) ?_
          clear hP hD hSh hS
          intro x394 u8 t8 H locs ht _ ex394 hB _ _ hS
          obtain ⟨L, hP, hD, hSh⟩ := hB
          rw [ht] at hP
          clear ht
          subst ex394
          refine lv_istore hx hb d_La_law_709 hl (by decide) rfl (fun ls hl => ?_)
          have hl : lv_has ls 8 [(5, .int (nI 2)), (0, .ref b), (1, .ref (aw_r ad 0)), (2, .ref (aw_m ad 0)), (3, .ref (aw_o ad)), (4, .int (nI (6 * t)))] := hl
          refine lv_aload_n hx hb d_La_law_711 rfl (lv_at hl 3 rfl) ?_
          refine lv_aload_n hx hb d_La_law_712 rfl (lv_at hl 1 rfl) ?_
          refine lv_iload hx hb d_La_law_713 (lv_at hl 5 rfl) ?_
          refine lv_iconst (v := nI 1) hx hb d_La_law_715 (by decide +kernel) ?_
          refine lv_iadd hx hb d_La_law_716 ?_
          refine aw_ti (nI_add (6 * t) 1) ?_
          refine va_sld hx hb hX hbl hbA hS (i := (nI ((6 * t) + 1))) (vp_in_nI (by omega) (by omega)) d_La_law_717 ?_
          refine aw_ti (y := nI j) (by rw [nI_clamp (by omega)]; exact hc0.symm) ?_
          refine lv_aload_n hx hb d_La_law_718 rfl (lv_at hl 1 rfl) ?_
          refine lv_iload hx hb d_La_law_719 (lv_at hl 5 rfl) ?_
          refine lv_iconst (v := nI 2) hx hb d_La_law_721 (by decide +kernel) ?_
          refine lv_iadd hx hb d_La_law_722 ?_
          refine aw_ti (nI_add (6 * t) 2) ?_
          refine va_sld hx hb hX hbl hbA hS (i := (nI ((6 * t) + 2))) (vp_in_nI (by omega) (by omega)) d_La_law_723 ?_
          refine aw_ti (y := s2) (by rw [nI_clamp (by omega)]; exact hs2.symm) ?_
          refine lv_i2l hx hb d_La_law_724 rfl ?_
          refine ag_topl (fun y395 ey395 => ?_)
          refine lv_bipush (v := nI 32) hx hb d_La_law_725 (by decide +kernel) ?_
          refine lv_lshl hx hb d_La_law_727 rfl ?_
          refine ag_topl (fun y396 ey396 => ?_)
          refine lv_aload_n hx hb d_La_law_728 rfl (lv_at hl 1 rfl) ?_
          refine lv_iload hx hb d_La_law_729 (lv_at hl 5 rfl) ?_
          refine lv_iconst (v := nI 3) hx hb d_La_law_731 (by decide +kernel) ?_
          refine lv_iadd hx hb d_La_law_732 ?_
          refine aw_ti (nI_add (6 * t) 3) ?_
          refine va_sld hx hb hX hbl hbA hS (i := (nI ((6 * t) + 3))) (vp_in_nI (by omega) (by omega)) d_La_law_733 ?_
          refine aw_ti (y := s3) (by rw [nI_clamp (by omega)]; exact hs3.symm) ?_
          refine lv_i2l hx hb d_La_law_734 rfl ?_
          refine ag_topl (fun y397 ey397 => ?_)
          refine lv_ldc2 (v := 4294967295) hx hb hown (hG _ gw_13_3) d_La_law_735 ?_
          refine lv_land hx hb d_La_law_738 ?_
          refine ag_topl (fun y398 ey398 => ?_)
          refine lv_lor hx hb d_La_law_739 ?_
          refine ag_topl (fun y399 ey399 => ?_)
          obtain ⟨_, he400⟩ := zr_M0 hSh
          refine va_callv (va_runV (As := [.int (nI j), .long y399]) (rest := []) ⟨hx, hb, hml, hown, hG⟩ (k_Mo_seekXsV l D g ad N0 zG zO zX zY zA zB zM zI zL zK zN zF zQ j y399 hj (by omega)) (aw_wV 2 hG gw_12_45 gw_12_42 gw_0_10 gw_12_43 gw_12_44 rfl rfl hd_Mo_seek ⟨Nat.le_of_ble_eq_true rfl, Nat.le_of_ble_eq_true rfl⟩) (ag_qV (va_recv hK hP rfl he400) hP hD hSh hU hS) rfl rfl hl.1 rfl (lv_room (Nat.le_of_ble_eq_true rfl)) d_La_law_740 ⟨by omega, by omega⟩) hS (fun _ _ h => h) (fun _ h => h) ?_
          clear hP hD hSh hS he400
          intro u8 t8 H locs ht _ _ hB _ _ hS
          obtain ⟨L, hP, hD, hSh⟩ := hB
          rw [ht] at hP
          clear ht
          refine lv_goto (tgt := 853) hx hb d_La_law_743 (by decide) ?_
          refine lv_iinc (k := 5) (v := nI (6 * t + 6)) hx hb d_La_law_853 hl rfl (aw_inc (6 * t) 6 6 (by decide +kernel)) (by decide) rfl (fun ls hl => ?_)
          have hl : lv_has ls 8 [(4, .int (nI (6 * t + 6))), (5, .int (nI 2)), (0, .ref b), (1, .ref (aw_r ad 0)), (2, .ref (aw_m ad 0)), (3, .ref (aw_o ad))] := hl
          refine lv_goto (tgt := 23) hx hb d_La_law_856 (by decide) ?_
          have hl := lv_sub hl (l' := [(0, .ref b), (1, .ref (aw_r ad 0)), (2, .ref (aw_m ad 0)), (3, .ref (aw_o ad)), (4, .int (nI (6 * t + 6)))]) [2, 3, 4, 5, 0] rfl
          refine W.widen (k := 85 + (t + 1)) (n := 1246 + 6 * (t + 1)) (by omega) (by omega) ?_
          exact ih (t + 1) zG zO zX zY zA zB zM zI zL zK zN (nI 2) zQ _ _ L ls (by omega) hP hD hSh hR hS (by first | exact hl | simpa [Nat.mul_add] using hl)
    · refine aw_ti (y := nI 11) (by rw [hs3]) ?_
      refine lv_tableIn (tgt := 746) (off := 706) hx hb d_La_law_40 (by decide +kernel) (by decide +kernel) (by decide +kernel) (by decide) ?_
      obtain ⟨c0, hc0⟩ : ∃ z : Int32, z = xs (6 * t + 1) := ⟨_, rfl⟩
      obtain ⟨fr, hfr⟩ : ∃ z : Int32, z = xs (6 * t + 2) := ⟨_, rfl⟩
      obtain ⟨m0, hm0⟩ : ∃ z : Int32, z = xs (6 * t + 3) := ⟨_, rfl⟩
      rcases aw_rng 4 (by decide) c0 with hc | ⟨j, hj, rfl⟩
      · refine lv_aload_n hx hb d_La_law_746 rfl (lv_at hl 1 rfl) ?_
        refine lv_aload_n hx hb d_La_law_747 rfl (lv_at hl 0 rfl) ?_
        refine lv_iload hx hb d_La_law_748 (lv_at hl 4 rfl) ?_
        refine lv_iconst (v := nI 1) hx hb d_La_law_750 (by decide +kernel) ?_
        refine lv_iadd hx hb d_La_law_751 ?_
        refine aw_ti (nI_add (6 * t) 1) ?_
        refine va_sld hx hb hX hbl hbA hS (i := (nI ((6 * t) + 1))) (vp_in_nI (by omega) (by omega)) d_La_law_752 ?_
        refine aw_ti (y := c0) (by rw [nI_clamp (by omega)]; exact hc0.symm) ?_
        refine lv_aload_n hx hb d_La_law_753 rfl (lv_at hl 0 rfl) ?_
        refine lv_iload hx hb d_La_law_754 (lv_at hl 4 rfl) ?_
        refine lv_iconst (v := nI 2) hx hb d_La_law_756 (by decide +kernel) ?_
        refine lv_iadd hx hb d_La_law_757 ?_
        refine aw_ti (nI_add (6 * t) 2) ?_
        refine va_sld hx hb hX hbl hbA hS (i := (nI ((6 * t) + 2))) (vp_in_nI (by omega) (by omega)) d_La_law_758 ?_
        refine aw_ti (y := fr) (by rw [nI_clamp (by omega)]; exact hfr.symm) ?_
        refine lv_aload_n hx hb d_La_law_759 rfl (lv_at hl 0 rfl) ?_
        refine lv_iload hx hb d_La_law_760 (lv_at hl 4 rfl) ?_
        refine lv_iconst (v := nI 3) hx hb d_La_law_762 (by decide +kernel) ?_
        refine lv_iadd hx hb d_La_law_763 ?_
        refine aw_ti (nI_add (6 * t) 3) ?_
        refine va_sld hx hb hX hbl hbA hS (i := (nI ((6 * t) + 3))) (vp_in_nI (by omega) (by omega)) d_La_law_764 ?_
        refine aw_ti (y := m0) (by rw [nI_clamp (by omega)]; exact hm0.symm) ?_
        refine lv_aload_n hx hb d_La_law_765 rfl (lv_at hl 3 rfl) ?_
        refine va_calli (vx_runSW (As := [.ref (aw_r ad 0), .int c0, .int fr, .int m0, .ref (aw_o ad)]) (rest := []) ⟨hx, hb, hml, hown, hG⟩ (k_La_takeXcV l hst D g ad N0 zG zO zX zY zA zB zM zI zL zK zN zF zQ c0 fr m0 hc) (aw_wW 5 hG gw_8_40 gw_8_38 gw_0_0 gw_8_39 rfl rfl hd_La_take ⟨Nat.le_of_ble_eq_true rfl, Nat.le_of_ble_eq_true rfl⟩) (ag_qS hP hD hSh hU hS) rfl rfl hl.1 rfl (lv_room (Nat.le_of_ble_eq_true rfl)) d_La_law_766 ⟨by omega, by omega⟩) hS (fun _ _ h => h) (fun _ h => h) ?_
        clear hP hD hSh hS
        intro x401 u8 t8 H locs ht _ ex401 hB _ _ hS
        obtain ⟨L, hP, hD, hSh⟩ := hB
        rw [ht] at hP
        clear ht
        subst ex401
        refine lv_istore hx hb d_La_law_769 hl (by decide) rfl (fun ls hl => ?_)
        have hl : lv_has ls 8 [(5, .int (nI 1)), (0, .ref b), (1, .ref (aw_r ad 0)), (2, .ref (aw_m ad 0)), (3, .ref (aw_o ad)), (4, .int (nI (6 * t)))] := hl
        refine lv_aload_n hx hb d_La_law_771 rfl (lv_at hl 3 rfl) ?_
        refine lv_aload_n hx hb d_La_law_772 rfl (lv_at hl 1 rfl) ?_
        refine lv_iload hx hb d_La_law_773 (lv_at hl 5 rfl) ?_
        refine lv_iconst (v := nI 1) hx hb d_La_law_775 (by decide +kernel) ?_
        refine lv_iadd hx hb d_La_law_776 ?_
        refine aw_ti (nI_add (6 * t) 1) ?_
        refine va_sld hx hb hX hbl hbA hS (i := (nI ((6 * t) + 1))) (vp_in_nI (by omega) (by omega)) d_La_law_777 ?_
        refine aw_ti (y := c0) (by rw [nI_clamp (by omega)]; exact hc0.symm) ?_
        refine lv_aload_n hx hb d_La_law_778 rfl (lv_at hl 1 rfl) ?_
        refine lv_iload hx hb d_La_law_779 (lv_at hl 5 rfl) ?_
        refine lv_iconst (v := nI 2) hx hb d_La_law_781 (by decide +kernel) ?_
        refine lv_iadd hx hb d_La_law_782 ?_
        refine aw_ti (nI_add (6 * t) 2) ?_
        refine va_sld hx hb hX hbl hbA hS (i := (nI ((6 * t) + 2))) (vp_in_nI (by omega) (by omega)) d_La_law_783 ?_
        refine aw_ti (y := fr) (by rw [nI_clamp (by omega)]; exact hfr.symm) ?_
        refine lv_aload_n hx hb d_La_law_784 rfl (lv_at hl 1 rfl) ?_
        refine lv_iload hx hb d_La_law_785 (lv_at hl 5 rfl) ?_
        refine lv_iconst (v := nI 3) hx hb d_La_law_787 (by decide +kernel) ?_
        refine lv_iadd hx hb d_La_law_788 ?_
        refine aw_ti (nI_add (6 * t) 3) ?_
        refine va_sld hx hb hX hbl hbA hS (i := (nI ((6 * t) + 3))) (vp_in_nI (by omega) (by omega)) d_La_law_789 ?_
        refine aw_ti (y := m0) (by rw [nI_clamp (by omega)]; exact hm0.symm) ?_
        obtain ⟨_, he402⟩ := zr_M0 hSh
        refine va_calli (va_runV (As := [.int c0, .int fr, .int m0]) (rest := []) ⟨hx, hb, hml, hown, hG⟩ (k_Mo_takeXcV l D g ad N0 zG zO zX zY zA zB zM zI zL zK zN zF zQ c0 fr m0 hc) (aw_wV 3 hG gw_12_49 gw_12_46 gw_0_10 gw_12_47 gw_12_48 rfl rfl hd_Mo_take ⟨Nat.le_of_ble_eq_true rfl, Nat.le_of_ble_eq_true rfl⟩) (ag_qV (va_recv hK hP rfl he402) hP hD hSh hU hS) rfl rfl hl.1 rfl (lv_room (Nat.le_of_ble_eq_true rfl)) d_La_law_790 ⟨by omega, by omega⟩) hS (fun _ _ h => h) (fun _ h => h) ?_
        clear hP hD hSh hS he402
        intro x403 u8 t8 H locs ht _ ex403 hB _ _ hS
        obtain ⟨L, hP, hD, hSh⟩ := hB
        rw [ht] at hP
        clear ht
        have ex403 := ex403.symm
        refine lv_istore hx hb d_La_law_793 hl (by decide) rfl (fun ls hl => ?_)
        have hl : lv_has ls 8 [(6, .int x403), (5, .int (nI 1)), (0, .ref b), (1, .ref (aw_r ad 0)), (2, .ref (aw_m ad 0)), (3, .ref (aw_o ad)), (4, .int (nI (6 * t)))] := hl
        refine lv_goto (tgt := 853) hx hb d_La_law_795 (by decide) ?_
        refine lv_iinc (k := 6) (v := nI (6 * t + 6)) hx hb d_La_law_853 hl rfl (aw_inc (6 * t) 6 6 (by decide +kernel)) (by decide) rfl (fun ls hl => ?_)
        have hl : lv_has ls 8 [(4, .int (nI (6 * t + 6))), (6, .int x403), (5, .int (nI 1)), (0, .ref b), (1, .ref (aw_r ad 0)), (2, .ref (aw_m ad 0)), (3, .ref (aw_o ad))] := hl
        refine lv_goto (tgt := 23) hx hb d_La_law_856 (by decide) ?_
        have hl := lv_sub hl (l' := [(0, .ref b), (1, .ref (aw_r ad 0)), (2, .ref (aw_m ad 0)), (3, .ref (aw_o ad)), (4, .int (nI (6 * t + 6)))]) [3, 4, 5, 6, 0] rfl
        refine W.widen (k := 85 + (t + 1)) (n := 1246 + 6 * (t + 1)) (by omega) (by omega) ?_
        exact ih (t + 1) zG zO zX zY zA zB zM zI zL zK zN (nI 1) zQ _ _ L ls (by omega) hP hD hSh hR hS (by first | exact hl | simpa [Nat.mul_add] using hl)
      · have hgj := hSh.2.2.2.2.1 j hj
        have hq1 : (zM j).1 = (zG j).1 := by rw [hR.1 j hj]
        have hq2 : (zM j).2 = (zG j).2 := by rw [hR.1 j hj]
        rcases aw_buf fr m0 with hi | rfl | ⟨k, mm, rfl, rfl, h0, hk⟩
        · have hi2 := aw_bp hi
          refine lv_aload_n hx hb d_La_law_746 rfl (lv_at hl 1 rfl) ?_
          refine lv_aload_n hx hb d_La_law_747 rfl (lv_at hl 0 rfl) ?_
          refine lv_iload hx hb d_La_law_748 (lv_at hl 4 rfl) ?_
          refine lv_iconst (v := nI 1) hx hb d_La_law_750 (by decide +kernel) ?_
          refine lv_iadd hx hb d_La_law_751 ?_
          refine aw_ti (nI_add (6 * t) 1) ?_
          refine va_sld hx hb hX hbl hbA hS (i := (nI ((6 * t) + 1))) (vp_in_nI (by omega) (by omega)) d_La_law_752 ?_
          refine aw_ti (y := nI j) (by rw [nI_clamp (by omega)]; exact hc0.symm) ?_
          refine lv_aload_n hx hb d_La_law_753 rfl (lv_at hl 0 rfl) ?_
          refine lv_iload hx hb d_La_law_754 (lv_at hl 4 rfl) ?_
          refine lv_iconst (v := nI 2) hx hb d_La_law_756 (by decide +kernel) ?_
          refine lv_iadd hx hb d_La_law_757 ?_
          refine aw_ti (nI_add (6 * t) 2) ?_
          refine va_sld hx hb hX hbl hbA hS (i := (nI ((6 * t) + 2))) (vp_in_nI (by omega) (by omega)) d_La_law_758 ?_
          refine aw_ti (y := fr) (by rw [nI_clamp (by omega)]; exact hfr.symm) ?_
          refine lv_aload_n hx hb d_La_law_759 rfl (lv_at hl 0 rfl) ?_
          refine lv_iload hx hb d_La_law_760 (lv_at hl 4 rfl) ?_
          refine lv_iconst (v := nI 3) hx hb d_La_law_762 (by decide +kernel) ?_
          refine lv_iadd hx hb d_La_law_763 ?_
          refine aw_ti (nI_add (6 * t) 3) ?_
          refine va_sld hx hb hX hbl hbA hS (i := (nI ((6 * t) + 3))) (vp_in_nI (by omega) (by omega)) d_La_law_764 ?_
          refine aw_ti (y := m0) (by rw [nI_clamp (by omega)]; exact hm0.symm) ?_
          refine lv_aload_n hx hb d_La_law_765 rfl (lv_at hl 3 rfl) ?_
          refine va_calli (vx_runSW (As := [.ref (aw_r ad 0), .int (nI j), .int fr, .int m0, .ref (aw_o ad)]) (rest := []) ⟨hx, hb, hml, hown, hG⟩ (k_La_takeXbV l hst D g ad N0 zG zO zX zY zA zB zM zI zL zK zN zF zQ j fr m0 hj hi) (aw_wW 5 hG gw_8_40 gw_8_38 gw_0_0 gw_8_39 rfl rfl hd_La_take ⟨Nat.le_of_ble_eq_true rfl, Nat.le_of_ble_eq_true rfl⟩) (ag_qS hP hD hSh hU hS) rfl rfl hl.1 rfl (lv_room (Nat.le_of_ble_eq_true rfl)) d_La_law_766 ⟨by omega, by omega⟩) hS (fun _ _ h => h) (fun _ h => h) ?_
          clear hP hD hSh hS
          intro x404 u8 t8 H locs ht _ ex404 hB _ _ hS
          obtain ⟨L, hP, hD, hSh⟩ := hB
          rw [ht] at hP
          clear ht
          subst ex404
          refine lv_istore hx hb d_La_law_769 hl (by decide) rfl (fun ls hl => ?_)
          have hl : lv_has ls 8 [(5, .int (nI 1)), (0, .ref b), (1, .ref (aw_r ad 0)), (2, .ref (aw_m ad 0)), (3, .ref (aw_o ad)), (4, .int (nI (6 * t)))] := hl
          refine lv_aload_n hx hb d_La_law_771 rfl (lv_at hl 3 rfl) ?_
          refine lv_aload_n hx hb d_La_law_772 rfl (lv_at hl 1 rfl) ?_
          refine lv_iload hx hb d_La_law_773 (lv_at hl 5 rfl) ?_
          refine lv_iconst (v := nI 1) hx hb d_La_law_775 (by decide +kernel) ?_
          refine lv_iadd hx hb d_La_law_776 ?_
          refine aw_ti (nI_add (6 * t) 1) ?_
          refine va_sld hx hb hX hbl hbA hS (i := (nI ((6 * t) + 1))) (vp_in_nI (by omega) (by omega)) d_La_law_777 ?_
          refine aw_ti (y := nI j) (by rw [nI_clamp (by omega)]; exact hc0.symm) ?_
          refine lv_aload_n hx hb d_La_law_778 rfl (lv_at hl 1 rfl) ?_
          refine lv_iload hx hb d_La_law_779 (lv_at hl 5 rfl) ?_
          refine lv_iconst (v := nI 2) hx hb d_La_law_781 (by decide +kernel) ?_
          refine lv_iadd hx hb d_La_law_782 ?_
          refine aw_ti (nI_add (6 * t) 2) ?_
          refine va_sld hx hb hX hbl hbA hS (i := (nI ((6 * t) + 2))) (vp_in_nI (by omega) (by omega)) d_La_law_783 ?_
          refine aw_ti (y := fr) (by rw [nI_clamp (by omega)]; exact hfr.symm) ?_
          refine lv_aload_n hx hb d_La_law_784 rfl (lv_at hl 1 rfl) ?_
          refine lv_iload hx hb d_La_law_785 (lv_at hl 5 rfl) ?_
          refine lv_iconst (v := nI 3) hx hb d_La_law_787 (by decide +kernel) ?_
          refine lv_iadd hx hb d_La_law_788 ?_
          refine aw_ti (nI_add (6 * t) 3) ?_
          refine va_sld hx hb hX hbl hbA hS (i := (nI ((6 * t) + 3))) (vp_in_nI (by omega) (by omega)) d_La_law_789 ?_
          refine aw_ti (y := m0) (by rw [nI_clamp (by omega)]; exact hm0.symm) ?_
          obtain ⟨_, he405⟩ := zr_M0 hSh
          refine va_calli (va_runV (As := [.int (nI j), .int fr, .int m0]) (rest := []) ⟨hx, hb, hml, hown, hG⟩ (k_Mo_takeXbV l D g ad N0 zG zO zX zY zA zB zM zI zL zK zN zF zQ j fr m0 hj hi2) (aw_wV 3 hG gw_12_49 gw_12_46 gw_0_10 gw_12_47 gw_12_48 rfl rfl hd_Mo_take ⟨Nat.le_of_ble_eq_true rfl, Nat.le_of_ble_eq_true rfl⟩) (ag_qV (va_recv hK hP rfl he405) hP hD hSh hU hS) rfl rfl hl.1 rfl (lv_room (Nat.le_of_ble_eq_true rfl)) d_La_law_790 ⟨by omega, by omega⟩) hS (fun _ _ h => h) (fun _ h => h) ?_
          clear hP hD hSh hS he405
          intro x406 u8 t8 H locs ht _ ex406 hB _ _ hS
          obtain ⟨L, hP, hD, hSh⟩ := hB
          rw [ht] at hP
          clear ht
          have ex406 := ex406.symm
          refine lv_istore hx hb d_La_law_793 hl (by decide) rfl (fun ls hl => ?_)
          have hl : lv_has ls 8 [(6, .int x406), (5, .int (nI 1)), (0, .ref b), (1, .ref (aw_r ad 0)), (2, .ref (aw_m ad 0)), (3, .ref (aw_o ad)), (4, .int (nI (6 * t)))] := hl
          refine lv_goto (tgt := 853) hx hb d_La_law_795 (by decide) ?_
          refine lv_iinc (k := 6) (v := nI (6 * t + 6)) hx hb d_La_law_853 hl rfl (aw_inc (6 * t) 6 6 (by decide +kernel)) (by decide) rfl (fun ls hl => ?_)
          have hl : lv_has ls 8 [(4, .int (nI (6 * t + 6))), (6, .int x406), (5, .int (nI 1)), (0, .ref b), (1, .ref (aw_r ad 0)), (2, .ref (aw_m ad 0)), (3, .ref (aw_o ad))] := hl
          refine lv_goto (tgt := 23) hx hb d_La_law_856 (by decide) ?_
          have hl := lv_sub hl (l' := [(0, .ref b), (1, .ref (aw_r ad 0)), (2, .ref (aw_m ad 0)), (3, .ref (aw_o ad)), (4, .int (nI (6 * t + 6)))]) [3, 4, 5, 6, 0] rfl
          refine W.widen (k := 85 + (t + 1)) (n := 1246 + 6 * (t + 1)) (by omega) (by omega) ?_
          exact ih (t + 1) zG zO zX zY zA zB zM zI zL zK zN (nI 1) zQ _ _ L ls (by omega) hP hD hSh hR hS (by first | exact hl | simpa [Nat.mul_add] using hl)
        · rcases aw_p0f fr with hi | ⟨k, rfl, hk⟩
          · by_cases hs : (zG j).1 = 3 ∧ (zG j).2 = 5
            · refine lv_aload_n hx hb d_La_law_746 rfl (lv_at hl 1 rfl) ?_
              refine lv_aload_n hx hb d_La_law_747 rfl (lv_at hl 0 rfl) ?_
              refine lv_iload hx hb d_La_law_748 (lv_at hl 4 rfl) ?_
              refine lv_iconst (v := nI 1) hx hb d_La_law_750 (by decide +kernel) ?_
              refine lv_iadd hx hb d_La_law_751 ?_
              refine aw_ti (nI_add (6 * t) 1) ?_
              refine va_sld hx hb hX hbl hbA hS (i := (nI ((6 * t) + 1))) (vp_in_nI (by omega) (by omega)) d_La_law_752 ?_
              refine aw_ti (y := nI j) (by rw [nI_clamp (by omega)]; exact hc0.symm) ?_
              refine lv_aload_n hx hb d_La_law_753 rfl (lv_at hl 0 rfl) ?_
              refine lv_iload hx hb d_La_law_754 (lv_at hl 4 rfl) ?_
              refine lv_iconst (v := nI 2) hx hb d_La_law_756 (by decide +kernel) ?_
              refine lv_iadd hx hb d_La_law_757 ?_
              refine aw_ti (nI_add (6 * t) 2) ?_
              refine va_sld hx hb hX hbl hbA hS (i := (nI ((6 * t) + 2))) (vp_in_nI (by omega) (by omega)) d_La_law_758 ?_
              refine aw_ti (y := fr) (by rw [nI_clamp (by omega)]; exact hfr.symm) ?_
              refine lv_aload_n hx hb d_La_law_759 rfl (lv_at hl 0 rfl) ?_
              refine lv_iload hx hb d_La_law_760 (lv_at hl 4 rfl) ?_
              refine lv_iconst (v := nI 3) hx hb d_La_law_762 (by decide +kernel) ?_
              refine lv_iadd hx hb d_La_law_763 ?_
              refine aw_ti (nI_add (6 * t) 3) ?_
              refine va_sld hx hb hX hbl hbA hS (i := (nI ((6 * t) + 3))) (vp_in_nI (by omega) (by omega)) d_La_law_764 ?_
              refine aw_ti (y := nI 0) (by rw [nI_clamp (by omega)]; exact hm0.symm) ?_
              refine lv_aload_n hx hb d_La_law_765 rfl (lv_at hl 3 rfl) ?_
              refine va_calli (vx_runSW (As := [.ref (aw_r ad 0), .int (nI j), .int fr, .int (nI 0), .ref (aw_o ad)]) (rest := []) ⟨hx, hb, hml, hown, hG⟩ (k_La_take10V l hst D g ad N0 zG zO zX zY zA zB zM zI zL zK zN zF zQ j fr hj (by omega)) (aw_wW 5 hG gw_8_40 gw_8_38 gw_0_0 gw_8_39 rfl rfl hd_La_take ⟨Nat.le_of_ble_eq_true rfl, Nat.le_of_ble_eq_true rfl⟩) (ag_qS hP hD hSh hU hS) rfl rfl hl.1 rfl (lv_room (Nat.le_of_ble_eq_true rfl)) d_La_law_766 ⟨by omega, by omega⟩) hS (fun _ _ h => h) (fun _ h => h) ?_
              clear hP hD hSh hS
              intro x407 u8 t8 H locs ht _ ex407 hB _ _ hS
              obtain ⟨L, hP, hD, hSh⟩ := hB
              rw [ht] at hP
              clear ht
              subst ex407
              obtain ⟨zY408, ezY408⟩ : ∃ z : Nat → Nat → Int32, v_La_take10V_zY zY j = z := ⟨_, rfl⟩
              rw [ezY408] at hSh
              obtain ⟨zQ409, ezQ409⟩ : ∃ z : Int64, v_La_take10V_zQ zY j = z := ⟨_, rfl⟩
              rw [ezQ409] at hSh
              refine lv_istore hx hb d_La_law_769 hl (by decide) rfl (fun ls hl => ?_)
              have hl : lv_has ls 8 [(5, .int (nI 0)), (0, .ref b), (1, .ref (aw_r ad 0)), (2, .ref (aw_m ad 0)), (3, .ref (aw_o ad)), (4, .int (nI (6 * t)))] := hl
              refine lv_aload_n hx hb d_La_law_771 rfl (lv_at hl 3 rfl) ?_
              refine lv_aload_n hx hb d_La_law_772 rfl (lv_at hl 1 rfl) ?_
              refine lv_iload hx hb d_La_law_773 (lv_at hl 5 rfl) ?_
              refine lv_iconst (v := nI 1) hx hb d_La_law_775 (by decide +kernel) ?_
              refine lv_iadd hx hb d_La_law_776 ?_
              refine aw_ti (nI_add (6 * t) 1) ?_
              refine va_sld hx hb hX hbl hbA hS (i := (nI ((6 * t) + 1))) (vp_in_nI (by omega) (by omega)) d_La_law_777 ?_
              refine aw_ti (y := nI j) (by rw [nI_clamp (by omega)]; exact hc0.symm) ?_
              refine lv_aload_n hx hb d_La_law_778 rfl (lv_at hl 1 rfl) ?_
              refine lv_iload hx hb d_La_law_779 (lv_at hl 5 rfl) ?_
              refine lv_iconst (v := nI 2) hx hb d_La_law_781 (by decide +kernel) ?_
              refine lv_iadd hx hb d_La_law_782 ?_
              refine aw_ti (nI_add (6 * t) 2) ?_
              refine va_sld hx hb hX hbl hbA hS (i := (nI ((6 * t) + 2))) (vp_in_nI (by omega) (by omega)) d_La_law_783 ?_
              refine aw_ti (y := fr) (by rw [nI_clamp (by omega)]; exact hfr.symm) ?_
              refine lv_aload_n hx hb d_La_law_784 rfl (lv_at hl 1 rfl) ?_
              refine lv_iload hx hb d_La_law_785 (lv_at hl 5 rfl) ?_
              refine lv_iconst (v := nI 3) hx hb d_La_law_787 (by decide +kernel) ?_
              refine lv_iadd hx hb d_La_law_788 ?_
              refine aw_ti (nI_add (6 * t) 3) ?_
              refine va_sld hx hb hX hbl hbA hS (i := (nI ((6 * t) + 3))) (vp_in_nI (by omega) (by omega)) d_La_law_789 ?_
              refine aw_ti (y := nI 0) (by rw [nI_clamp (by omega)]; exact hm0.symm) ?_
              obtain ⟨_, he410⟩ := zr_M0 hSh
              refine va_calli (va_runV (As := [.int (nI j), .int fr, .int (nI 0)]) (rest := []) ⟨hx, hb, hml, hown, hG⟩ (k_Mo_takeXbV l D g ad N0 zG zO zX zY408 zA zB zM zI zL zK zN zF zQ409 j fr (nI 0) hj hi) (aw_wV 3 hG gw_12_49 gw_12_46 gw_0_10 gw_12_47 gw_12_48 rfl rfl hd_Mo_take ⟨Nat.le_of_ble_eq_true rfl, Nat.le_of_ble_eq_true rfl⟩) (ag_qV (va_recv hK hP rfl he410) hP hD hSh hU hS) rfl rfl hl.1 rfl (lv_room (Nat.le_of_ble_eq_true rfl)) d_La_law_790 ⟨by omega, by omega⟩) hS (fun _ _ h => h) (fun _ h => h) ?_
              clear hP hD hSh hS he410
              intro x411 u8 t8 H locs ht _ ex411 hB _ _ hS
              obtain ⟨L, hP, hD, hSh⟩ := hB
              rw [ht] at hP
              clear ht
              have ex411 := ex411.symm
              refine lv_istore hx hb d_La_law_793 hl (by decide) rfl (fun ls hl => ?_)
              have hl : lv_has ls 8 [(6, .int x411), (5, .int (nI 0)), (0, .ref b), (1, .ref (aw_r ad 0)), (2, .ref (aw_m ad 0)), (3, .ref (aw_o ad)), (4, .int (nI (6 * t)))] := hl
              refine lv_goto (tgt := 853) hx hb d_La_law_795 (by decide) ?_
              refine lv_iinc (k := 6) (v := nI (6 * t + 6)) hx hb d_La_law_853 hl rfl (aw_inc (6 * t) 6 6 (by decide +kernel)) (by decide) rfl (fun ls hl => ?_)
              have hl : lv_has ls 8 [(4, .int (nI (6 * t + 6))), (6, .int x411), (5, .int (nI 0)), (0, .ref b), (1, .ref (aw_r ad 0)), (2, .ref (aw_m ad 0)), (3, .ref (aw_o ad))] := hl
              refine lv_goto (tgt := 23) hx hb d_La_law_856 (by decide) ?_
              have hl := lv_sub hl (l' := [(0, .ref b), (1, .ref (aw_r ad 0)), (2, .ref (aw_m ad 0)), (3, .ref (aw_o ad)), (4, .int (nI (6 * t + 6)))]) [3, 4, 5, 6, 0] rfl
              refine W.widen (k := 85 + (t + 1)) (n := 1246 + 6 * (t + 1)) (by omega) (by omega) ?_
              have hR : az_R zG zO zX zY408 zA zB zM zI zL := by
                subst ex411 ezQ409 ezY408
                exact r_take10_Xb hR hj hs
              exact ih (t + 1) zG zO zX zY408 zA zB zM zI zL zK zN (nI 1) zQ409 _ _ L ls (by omega) hP hD hSh hR hS (by first | exact hl | simpa [Nat.mul_add] using hl)
            · refine lv_aload_n hx hb d_La_law_746 rfl (lv_at hl 1 rfl) ?_
              refine lv_aload_n hx hb d_La_law_747 rfl (lv_at hl 0 rfl) ?_
              refine lv_iload hx hb d_La_law_748 (lv_at hl 4 rfl) ?_
              refine lv_iconst (v := nI 1) hx hb d_La_law_750 (by decide +kernel) ?_
              refine lv_iadd hx hb d_La_law_751 ?_
              refine aw_ti (nI_add (6 * t) 1) ?_
              refine va_sld hx hb hX hbl hbA hS (i := (nI ((6 * t) + 1))) (vp_in_nI (by omega) (by omega)) d_La_law_752 ?_
              refine aw_ti (y := nI j) (by rw [nI_clamp (by omega)]; exact hc0.symm) ?_
              refine lv_aload_n hx hb d_La_law_753 rfl (lv_at hl 0 rfl) ?_
              refine lv_iload hx hb d_La_law_754 (lv_at hl 4 rfl) ?_
              refine lv_iconst (v := nI 2) hx hb d_La_law_756 (by decide +kernel) ?_
              refine lv_iadd hx hb d_La_law_757 ?_
              refine aw_ti (nI_add (6 * t) 2) ?_
              refine va_sld hx hb hX hbl hbA hS (i := (nI ((6 * t) + 2))) (vp_in_nI (by omega) (by omega)) d_La_law_758 ?_
              refine aw_ti (y := fr) (by rw [nI_clamp (by omega)]; exact hfr.symm) ?_
              refine lv_aload_n hx hb d_La_law_759 rfl (lv_at hl 0 rfl) ?_
              refine lv_iload hx hb d_La_law_760 (lv_at hl 4 rfl) ?_
              refine lv_iconst (v := nI 3) hx hb d_La_law_762 (by decide +kernel) ?_
              refine lv_iadd hx hb d_La_law_763 ?_
              refine aw_ti (nI_add (6 * t) 3) ?_
              refine va_sld hx hb hX hbl hbA hS (i := (nI ((6 * t) + 3))) (vp_in_nI (by omega) (by omega)) d_La_law_764 ?_
              refine aw_ti (y := nI 0) (by rw [nI_clamp (by omega)]; exact hm0.symm) ?_
              refine lv_aload_n hx hb d_La_law_765 rfl (lv_at hl 3 rfl) ?_
              refine va_calli (vx_runSW (As := [.ref (aw_r ad 0), .int (nI j), .int fr, .int (nI 0), .ref (aw_o ad)]) (rest := []) ⟨hx, hb, hml, hown, hG⟩ (k_La_takeXs0V l hst D g ad N0 zG zO zX zY zA zB zM zI zL zK zN zF zQ j fr hj (by omega)) (aw_wW 5 hG gw_8_40 gw_8_38 gw_0_0 gw_8_39 rfl rfl hd_La_take ⟨Nat.le_of_ble_eq_true rfl, Nat.le_of_ble_eq_true rfl⟩) (ag_qS hP hD hSh hU hS) rfl rfl hl.1 rfl (lv_room (Nat.le_of_ble_eq_true rfl)) d_La_law_766 ⟨by omega, by omega⟩) hS (fun _ _ h => h) (fun _ h => h) ?_
              clear hP hD hSh hS
              intro x412 u8 t8 H locs ht _ ex412 hB _ _ hS
              obtain ⟨L, hP, hD, hSh⟩ := hB
              rw [ht] at hP
              clear ht
              subst ex412
              refine lv_istore hx hb d_La_law_769 hl (by decide) rfl (fun ls hl => ?_)
              have hl : lv_has ls 8 [(5, .int (nI 2)), (0, .ref b), (1, .ref (aw_r ad 0)), (2, .ref (aw_m ad 0)), (3, .ref (aw_o ad)), (4, .int (nI (6 * t)))] := hl
              refine lv_aload_n hx hb d_La_law_771 rfl (lv_at hl 3 rfl) ?_
              refine lv_aload_n hx hb d_La_law_772 rfl (lv_at hl 1 rfl) ?_
              refine lv_iload hx hb d_La_law_773 (lv_at hl 5 rfl) ?_
              refine lv_iconst (v := nI 1) hx hb d_La_law_775 (by decide +kernel) ?_
              refine lv_iadd hx hb d_La_law_776 ?_
              refine aw_ti (nI_add (6 * t) 1) ?_
              refine va_sld hx hb hX hbl hbA hS (i := (nI ((6 * t) + 1))) (vp_in_nI (by omega) (by omega)) d_La_law_777 ?_
              refine aw_ti (y := nI j) (by rw [nI_clamp (by omega)]; exact hc0.symm) ?_
              refine lv_aload_n hx hb d_La_law_778 rfl (lv_at hl 1 rfl) ?_
              refine lv_iload hx hb d_La_law_779 (lv_at hl 5 rfl) ?_
              refine lv_iconst (v := nI 2) hx hb d_La_law_781 (by decide +kernel) ?_
              refine lv_iadd hx hb d_La_law_782 ?_
              refine aw_ti (nI_add (6 * t) 2) ?_
              refine va_sld hx hb hX hbl hbA hS (i := (nI ((6 * t) + 2))) (vp_in_nI (by omega) (by omega)) d_La_law_783 ?_
              refine aw_ti (y := fr) (by rw [nI_clamp (by omega)]; exact hfr.symm) ?_
              refine lv_aload_n hx hb d_La_law_784 rfl (lv_at hl 1 rfl) ?_
              refine lv_iload hx hb d_La_law_785 (lv_at hl 5 rfl) ?_
              refine lv_iconst (v := nI 3) hx hb d_La_law_787 (by decide +kernel) ?_
              refine lv_iadd hx hb d_La_law_788 ?_
              refine aw_ti (nI_add (6 * t) 3) ?_
              refine va_sld hx hb hX hbl hbA hS (i := (nI ((6 * t) + 3))) (vp_in_nI (by omega) (by omega)) d_La_law_789 ?_
              refine aw_ti (y := nI 0) (by rw [nI_clamp (by omega)]; exact hm0.symm) ?_
              obtain ⟨_, he413⟩ := zr_M0 hSh
              refine va_calli (va_runV (As := [.int (nI j), .int fr, .int (nI 0)]) (rest := []) ⟨hx, hb, hml, hown, hG⟩ (k_Mo_takeXbV l D g ad N0 zG zO zX zY zA zB zM zI zL zK zN zF zQ j fr (nI 0) hj hi) (aw_wV 3 hG gw_12_49 gw_12_46 gw_0_10 gw_12_47 gw_12_48 rfl rfl hd_Mo_take ⟨Nat.le_of_ble_eq_true rfl, Nat.le_of_ble_eq_true rfl⟩) (ag_qV (va_recv hK hP rfl he413) hP hD hSh hU hS) rfl rfl hl.1 rfl (lv_room (Nat.le_of_ble_eq_true rfl)) d_La_law_790 ⟨by omega, by omega⟩) hS (fun _ _ h => h) (fun _ h => h) ?_
              clear hP hD hSh hS he413
              intro x414 u8 t8 H locs ht _ ex414 hB _ _ hS
              obtain ⟨L, hP, hD, hSh⟩ := hB
              rw [ht] at hP
              clear ht
              have ex414 := ex414.symm
              refine lv_istore hx hb d_La_law_793 hl (by decide) rfl (fun ls hl => ?_)
              have hl : lv_has ls 8 [(6, .int x414), (5, .int (nI 2)), (0, .ref b), (1, .ref (aw_r ad 0)), (2, .ref (aw_m ad 0)), (3, .ref (aw_o ad)), (4, .int (nI (6 * t)))] := hl
              refine lv_goto (tgt := 853) hx hb d_La_law_795 (by decide) ?_
              refine lv_iinc (k := 6) (v := nI (6 * t + 6)) hx hb d_La_law_853 hl rfl (aw_inc (6 * t) 6 6 (by decide +kernel)) (by decide) rfl (fun ls hl => ?_)
              have hl : lv_has ls 8 [(4, .int (nI (6 * t + 6))), (6, .int x414), (5, .int (nI 2)), (0, .ref b), (1, .ref (aw_r ad 0)), (2, .ref (aw_m ad 0)), (3, .ref (aw_o ad))] := hl
              refine lv_goto (tgt := 23) hx hb d_La_law_856 (by decide) ?_
              have hl := lv_sub hl (l' := [(0, .ref b), (1, .ref (aw_r ad 0)), (2, .ref (aw_m ad 0)), (3, .ref (aw_o ad)), (4, .int (nI (6 * t + 6)))]) [3, 4, 5, 6, 0] rfl
              refine W.widen (k := 85 + (t + 1)) (n := 1246 + 6 * (t + 1)) (by omega) (by omega) ?_
              exact ih (t + 1) zG zO zX zY zA zB zM zI zL zK zN (nI 1) zQ _ _ L ls (by omega) hP hD hSh hR hS (by first | exact hl | simpa [Nat.mul_add] using hl)
          · by_cases hs : (zG j).1 = 3 ∧ (zG j).2 = 5
            · obtain ⟨kc, hkc, hci, hco⟩ := hR.2.1 j hj (by omega)
              refine lv_aload_n hx hb d_La_law_746 rfl (lv_at hl 1 rfl) ?_
              refine lv_aload_n hx hb d_La_law_747 rfl (lv_at hl 0 rfl) ?_
              refine lv_iload hx hb d_La_law_748 (lv_at hl 4 rfl) ?_
              refine lv_iconst (v := nI 1) hx hb d_La_law_750 (by decide +kernel) ?_
              refine lv_iadd hx hb d_La_law_751 ?_
              refine aw_ti (nI_add (6 * t) 1) ?_
              refine va_sld hx hb hX hbl hbA hS (i := (nI ((6 * t) + 1))) (vp_in_nI (by omega) (by omega)) d_La_law_752 ?_
              refine aw_ti (y := nI j) (by rw [nI_clamp (by omega)]; exact hc0.symm) ?_
              refine lv_aload_n hx hb d_La_law_753 rfl (lv_at hl 0 rfl) ?_
              refine lv_iload hx hb d_La_law_754 (lv_at hl 4 rfl) ?_
              refine lv_iconst (v := nI 2) hx hb d_La_law_756 (by decide +kernel) ?_
              refine lv_iadd hx hb d_La_law_757 ?_
              refine aw_ti (nI_add (6 * t) 2) ?_
              refine va_sld hx hb hX hbl hbA hS (i := (nI ((6 * t) + 2))) (vp_in_nI (by omega) (by omega)) d_La_law_758 ?_
              refine aw_ti (y := nI k) (by rw [nI_clamp (by omega)]; exact hfr.symm) ?_
              refine lv_aload_n hx hb d_La_law_759 rfl (lv_at hl 0 rfl) ?_
              refine lv_iload hx hb d_La_law_760 (lv_at hl 4 rfl) ?_
              refine lv_iconst (v := nI 3) hx hb d_La_law_762 (by decide +kernel) ?_
              refine lv_iadd hx hb d_La_law_763 ?_
              refine aw_ti (nI_add (6 * t) 3) ?_
              refine va_sld hx hb hX hbl hbA hS (i := (nI ((6 * t) + 3))) (vp_in_nI (by omega) (by omega)) d_La_law_764 ?_
              refine aw_ti (y := nI 0) (by rw [nI_clamp (by omega)]; exact hm0.symm) ?_
              refine lv_aload_n hx hb d_La_law_765 rfl (lv_at hl 3 rfl) ?_
              refine va_calli (vx_runSW (As := [.ref (aw_r ad 0), .int (nI j), .int (nI k), .int (nI 0), .ref (aw_o ad)]) (rest := []) ⟨hx, hb, hml, hown, hG⟩ (k_La_take10V l hst D g ad N0 zG zO zX zY zA zB zM zI zL zK zN zF zQ j (nI k) hj (by omega)) (aw_wW 5 hG gw_8_40 gw_8_38 gw_0_0 gw_8_39 rfl rfl hd_La_take ⟨Nat.le_of_ble_eq_true rfl, Nat.le_of_ble_eq_true rfl⟩) (ag_qS hP hD hSh hU hS) rfl rfl hl.1 rfl (lv_room (Nat.le_of_ble_eq_true rfl)) d_La_law_766 ⟨by omega, by omega⟩) hS (fun _ _ h => h) (fun _ h => h) ?_
              clear hP hD hSh hS
              intro x415 u8 t8 H locs ht _ ex415 hB _ _ hS
              obtain ⟨L, hP, hD, hSh⟩ := hB
              rw [ht] at hP
              clear ht
              subst ex415
              obtain ⟨zY416, ezY416⟩ : ∃ z : Nat → Nat → Int32, v_La_take10V_zY zY j = z := ⟨_, rfl⟩
              rw [ezY416] at hSh
              obtain ⟨zQ417, ezQ417⟩ : ∃ z : Int64, v_La_take10V_zQ zY j = z := ⟨_, rfl⟩
              rw [ezQ417] at hSh
              refine lv_istore hx hb d_La_law_769 hl (by decide) rfl (fun ls hl => ?_)
              have hl : lv_has ls 8 [(5, .int (nI 0)), (0, .ref b), (1, .ref (aw_r ad 0)), (2, .ref (aw_m ad 0)), (3, .ref (aw_o ad)), (4, .int (nI (6 * t)))] := hl
              refine lv_aload_n hx hb d_La_law_771 rfl (lv_at hl 3 rfl) ?_
              refine lv_aload_n hx hb d_La_law_772 rfl (lv_at hl 1 rfl) ?_
              refine lv_iload hx hb d_La_law_773 (lv_at hl 5 rfl) ?_
              refine lv_iconst (v := nI 1) hx hb d_La_law_775 (by decide +kernel) ?_
              refine lv_iadd hx hb d_La_law_776 ?_
              refine aw_ti (nI_add (6 * t) 1) ?_
              refine va_sld hx hb hX hbl hbA hS (i := (nI ((6 * t) + 1))) (vp_in_nI (by omega) (by omega)) d_La_law_777 ?_
              refine aw_ti (y := nI j) (by rw [nI_clamp (by omega)]; exact hc0.symm) ?_
              refine lv_aload_n hx hb d_La_law_778 rfl (lv_at hl 1 rfl) ?_
              refine lv_iload hx hb d_La_law_779 (lv_at hl 5 rfl) ?_
              refine lv_iconst (v := nI 2) hx hb d_La_law_781 (by decide +kernel) ?_
              refine lv_iadd hx hb d_La_law_782 ?_
              refine aw_ti (nI_add (6 * t) 2) ?_
              refine va_sld hx hb hX hbl hbA hS (i := (nI ((6 * t) + 2))) (vp_in_nI (by omega) (by omega)) d_La_law_783 ?_
              refine aw_ti (y := nI k) (by rw [nI_clamp (by omega)]; exact hfr.symm) ?_
              refine lv_aload_n hx hb d_La_law_784 rfl (lv_at hl 1 rfl) ?_
              refine lv_iload hx hb d_La_law_785 (lv_at hl 5 rfl) ?_
              refine lv_iconst (v := nI 3) hx hb d_La_law_787 (by decide +kernel) ?_
              refine lv_iadd hx hb d_La_law_788 ?_
              refine aw_ti (nI_add (6 * t) 3) ?_
              refine va_sld hx hb hX hbl hbA hS (i := (nI ((6 * t) + 3))) (vp_in_nI (by omega) (by omega)) d_La_law_789 ?_
              refine aw_ti (y := nI 0) (by rw [nI_clamp (by omega)]; exact hm0.symm) ?_
              obtain ⟨_, he418⟩ := zr_M0 hSh
              refine va_calli (va_runV (As := [.int (nI j), .int (nI k), .int (nI 0)]) (rest := []) ⟨hx, hb, hml, hown, hG⟩ (k_Mo_take1V l D g ad N0 zG zO zX zY416 zA zB zM zI zL zK zN zF zQ417 j kc k 0 hj (by omega) (by omega) hkc hci) (aw_wV 3 hG gw_12_49 gw_12_46 gw_0_10 gw_12_47 gw_12_48 rfl rfl hd_Mo_take ⟨Nat.le_of_ble_eq_true rfl, Nat.le_of_ble_eq_true rfl⟩) (ag_qV (va_recv hK hP rfl he418) hP hD hSh hU hS) rfl rfl hl.1 rfl (lv_room (Nat.le_of_ble_eq_true rfl)) d_La_law_790 ⟨by omega, by omega⟩) hS (fun _ _ h => h) (fun _ h => h) ?_
              clear hP hD hSh hS he418
              intro x419 u8 t8 H locs ht _ ex419 hB _ _ hS
              obtain ⟨L, hP, hD, hSh⟩ := hB
              rw [ht] at hP
              clear ht
              obtain ⟨zI420, ezI420⟩ : ∃ z : Nat → Nat → Int32, v_Mo_take1V_zI zI zL j kc k 0 = z := ⟨_, rfl⟩
              rw [ezI420] at hSh
              obtain ⟨zL421, ezL421⟩ : ∃ z : Nat → Nat → Int64, v_Mo_take1V_zL zI zL j kc k 0 = z := ⟨_, rfl⟩
              rw [ezL421] at hSh
              have ex419 := ex419.symm
              refine lv_istore hx hb d_La_law_793 hl (by decide) rfl (fun ls hl => ?_)
              have hl : lv_has ls 8 [(6, .int x419), (5, .int (nI 0)), (0, .ref b), (1, .ref (aw_r ad 0)), (2, .ref (aw_m ad 0)), (3, .ref (aw_o ad)), (4, .int (nI (6 * t)))] := hl
              refine lv_goto (tgt := 853) hx hb d_La_law_795 (by decide) ?_
              refine lv_iinc (k := 6) (v := nI (6 * t + 6)) hx hb d_La_law_853 hl rfl (aw_inc (6 * t) 6 6 (by decide +kernel)) (by decide) rfl (fun ls hl => ?_)
              have hl : lv_has ls 8 [(4, .int (nI (6 * t + 6))), (6, .int x419), (5, .int (nI 0)), (0, .ref b), (1, .ref (aw_r ad 0)), (2, .ref (aw_m ad 0)), (3, .ref (aw_o ad))] := hl
              refine lv_goto (tgt := 23) hx hb d_La_law_856 (by decide) ?_
              have hl := lv_sub hl (l' := [(0, .ref b), (1, .ref (aw_r ad 0)), (2, .ref (aw_m ad 0)), (3, .ref (aw_o ad)), (4, .int (nI (6 * t + 6)))]) [3, 4, 5, 6, 0] rfl
              refine W.widen (k := 85 + (t + 1)) (n := 1246 + 6 * (t + 1)) (by omega) (by omega) ?_
              have hR : az_R zG zO zX zY416 zA zB zM zI420 zL421 := by
                subst ex419 ezL421 ezI420 ezQ417 ezY416
                exact r_take10_1 hR hj hs hk hkc hci hco
              exact ih (t + 1) zG zO zX zY416 zA zB zM zI420 zL421 (nI kc) (az_wn kc) (nI 0) zQ417 _ _ L ls (by omega) hP hD hSh hR hS (by first | exact hl | simpa [Nat.mul_add] using hl)
            · refine lv_aload_n hx hb d_La_law_746 rfl (lv_at hl 1 rfl) ?_
              refine lv_aload_n hx hb d_La_law_747 rfl (lv_at hl 0 rfl) ?_
              refine lv_iload hx hb d_La_law_748 (lv_at hl 4 rfl) ?_
              refine lv_iconst (v := nI 1) hx hb d_La_law_750 (by decide +kernel) ?_
              refine lv_iadd hx hb d_La_law_751 ?_
              refine aw_ti (nI_add (6 * t) 1) ?_
              refine va_sld hx hb hX hbl hbA hS (i := (nI ((6 * t) + 1))) (vp_in_nI (by omega) (by omega)) d_La_law_752 ?_
              refine aw_ti (y := nI j) (by rw [nI_clamp (by omega)]; exact hc0.symm) ?_
              refine lv_aload_n hx hb d_La_law_753 rfl (lv_at hl 0 rfl) ?_
              refine lv_iload hx hb d_La_law_754 (lv_at hl 4 rfl) ?_
              refine lv_iconst (v := nI 2) hx hb d_La_law_756 (by decide +kernel) ?_
              refine lv_iadd hx hb d_La_law_757 ?_
              refine aw_ti (nI_add (6 * t) 2) ?_
              refine va_sld hx hb hX hbl hbA hS (i := (nI ((6 * t) + 2))) (vp_in_nI (by omega) (by omega)) d_La_law_758 ?_
              refine aw_ti (y := nI k) (by rw [nI_clamp (by omega)]; exact hfr.symm) ?_
              refine lv_aload_n hx hb d_La_law_759 rfl (lv_at hl 0 rfl) ?_
              refine lv_iload hx hb d_La_law_760 (lv_at hl 4 rfl) ?_
              refine lv_iconst (v := nI 3) hx hb d_La_law_762 (by decide +kernel) ?_
              refine lv_iadd hx hb d_La_law_763 ?_
              refine aw_ti (nI_add (6 * t) 3) ?_
              refine va_sld hx hb hX hbl hbA hS (i := (nI ((6 * t) + 3))) (vp_in_nI (by omega) (by omega)) d_La_law_764 ?_
              refine aw_ti (y := nI 0) (by rw [nI_clamp (by omega)]; exact hm0.symm) ?_
              refine lv_aload_n hx hb d_La_law_765 rfl (lv_at hl 3 rfl) ?_
              refine va_calli (vx_runSW (As := [.ref (aw_r ad 0), .int (nI j), .int (nI k), .int (nI 0), .ref (aw_o ad)]) (rest := []) ⟨hx, hb, hml, hown, hG⟩ (k_La_takeXs0V l hst D g ad N0 zG zO zX zY zA zB zM zI zL zK zN zF zQ j (nI k) hj (by omega)) (aw_wW 5 hG gw_8_40 gw_8_38 gw_0_0 gw_8_39 rfl rfl hd_La_take ⟨Nat.le_of_ble_eq_true rfl, Nat.le_of_ble_eq_true rfl⟩) (ag_qS hP hD hSh hU hS) rfl rfl hl.1 rfl (lv_room (Nat.le_of_ble_eq_true rfl)) d_La_law_766 ⟨by omega, by omega⟩) hS (fun _ _ h => h) (fun _ h => h) ?_
              clear hP hD hSh hS
              intro x422 u8 t8 H locs ht _ ex422 hB _ _ hS
              obtain ⟨L, hP, hD, hSh⟩ := hB
              rw [ht] at hP
              clear ht
              subst ex422
              refine lv_istore hx hb d_La_law_769 hl (by decide) rfl (fun ls hl => ?_)
              have hl : lv_has ls 8 [(5, .int (nI 2)), (0, .ref b), (1, .ref (aw_r ad 0)), (2, .ref (aw_m ad 0)), (3, .ref (aw_o ad)), (4, .int (nI (6 * t)))] := hl
              refine lv_aload_n hx hb d_La_law_771 rfl (lv_at hl 3 rfl) ?_
              refine lv_aload_n hx hb d_La_law_772 rfl (lv_at hl 1 rfl) ?_
              refine lv_iload hx hb d_La_law_773 (lv_at hl 5 rfl) ?_
              refine lv_iconst (v := nI 1) hx hb d_La_law_775 (by decide +kernel) ?_
              refine lv_iadd hx hb d_La_law_776 ?_
              refine aw_ti (nI_add (6 * t) 1) ?_
              refine va_sld hx hb hX hbl hbA hS (i := (nI ((6 * t) + 1))) (vp_in_nI (by omega) (by omega)) d_La_law_777 ?_
              refine aw_ti (y := nI j) (by rw [nI_clamp (by omega)]; exact hc0.symm) ?_
              refine lv_aload_n hx hb d_La_law_778 rfl (lv_at hl 1 rfl) ?_
              refine lv_iload hx hb d_La_law_779 (lv_at hl 5 rfl) ?_
              refine lv_iconst (v := nI 2) hx hb d_La_law_781 (by decide +kernel) ?_
              refine lv_iadd hx hb d_La_law_782 ?_
              refine aw_ti (nI_add (6 * t) 2) ?_
              refine va_sld hx hb hX hbl hbA hS (i := (nI ((6 * t) + 2))) (vp_in_nI (by omega) (by omega)) d_La_law_783 ?_
              refine aw_ti (y := nI k) (by rw [nI_clamp (by omega)]; exact hfr.symm) ?_
              refine lv_aload_n hx hb d_La_law_784 rfl (lv_at hl 1 rfl) ?_
              refine lv_iload hx hb d_La_law_785 (lv_at hl 5 rfl) ?_
              refine lv_iconst (v := nI 3) hx hb d_La_law_787 (by decide +kernel) ?_
              refine lv_iadd hx hb d_La_law_788 ?_
              refine aw_ti (nI_add (6 * t) 3) ?_
              refine va_sld hx hb hX hbl hbA hS (i := (nI ((6 * t) + 3))) (vp_in_nI (by omega) (by omega)) d_La_law_789 ?_
              refine aw_ti (y := nI 0) (by rw [nI_clamp (by omega)]; exact hm0.symm) ?_
              obtain ⟨_, he423⟩ := zr_M0 hSh
              refine va_calli (va_runV (As := [.int (nI j), .int (nI k), .int (nI 0)]) (rest := []) ⟨hx, hb, hml, hown, hG⟩ (k_Mo_takeXsV l D g ad N0 zG zO zX zY zA zB zM zI zL zK zN zF zQ j k 0 hj (by omega) (by omega)) (aw_wV 3 hG gw_12_49 gw_12_46 gw_0_10 gw_12_47 gw_12_48 rfl rfl hd_Mo_take ⟨Nat.le_of_ble_eq_true rfl, Nat.le_of_ble_eq_true rfl⟩) (ag_qV (va_recv hK hP rfl he423) hP hD hSh hU hS) rfl rfl hl.1 rfl (lv_room (Nat.le_of_ble_eq_true rfl)) d_La_law_790 ⟨by omega, by omega⟩) hS (fun _ _ h => h) (fun _ h => h) ?_
              clear hP hD hSh hS he423
              intro x424 u8 t8 H locs ht _ ex424 hB _ _ hS
              obtain ⟨L, hP, hD, hSh⟩ := hB
              rw [ht] at hP
              clear ht
              have ex424 := ex424.symm
              refine lv_istore hx hb d_La_law_793 hl (by decide) rfl (fun ls hl => ?_)
              have hl : lv_has ls 8 [(6, .int x424), (5, .int (nI 2)), (0, .ref b), (1, .ref (aw_r ad 0)), (2, .ref (aw_m ad 0)), (3, .ref (aw_o ad)), (4, .int (nI (6 * t)))] := hl
              refine lv_goto (tgt := 853) hx hb d_La_law_795 (by decide) ?_
              refine lv_iinc (k := 6) (v := nI (6 * t + 6)) hx hb d_La_law_853 hl rfl (aw_inc (6 * t) 6 6 (by decide +kernel)) (by decide) rfl (fun ls hl => ?_)
              have hl : lv_has ls 8 [(4, .int (nI (6 * t + 6))), (6, .int x424), (5, .int (nI 2)), (0, .ref b), (1, .ref (aw_r ad 0)), (2, .ref (aw_m ad 0)), (3, .ref (aw_o ad))] := hl
              refine lv_goto (tgt := 23) hx hb d_La_law_856 (by decide) ?_
              have hl := lv_sub hl (l' := [(0, .ref b), (1, .ref (aw_r ad 0)), (2, .ref (aw_m ad 0)), (3, .ref (aw_o ad)), (4, .int (nI (6 * t + 6)))]) [3, 4, 5, 6, 0] rfl
              refine W.widen (k := 85 + (t + 1)) (n := 1246 + 6 * (t + 1)) (by omega) (by omega) ?_
              exact ih (t + 1) zG zO zX zY zA zB zM zI zL zK zN (nI 2) zQ _ _ L ls (by omega) hP hD hSh hR hS (by first | exact hl | simpa [Nat.mul_add] using hl)
        · by_cases hs : (zG j).1 = 3 ∧ (zG j).2 = 5
          · obtain ⟨kc, hkc, hci, hco⟩ := hR.2.1 j hj (by omega)
            refine lv_aload_n hx hb d_La_law_746 rfl (lv_at hl 1 rfl) ?_
            refine lv_aload_n hx hb d_La_law_747 rfl (lv_at hl 0 rfl) ?_
            refine lv_iload hx hb d_La_law_748 (lv_at hl 4 rfl) ?_
            refine lv_iconst (v := nI 1) hx hb d_La_law_750 (by decide +kernel) ?_
            refine lv_iadd hx hb d_La_law_751 ?_
            refine aw_ti (nI_add (6 * t) 1) ?_
            refine va_sld hx hb hX hbl hbA hS (i := (nI ((6 * t) + 1))) (vp_in_nI (by omega) (by omega)) d_La_law_752 ?_
            refine aw_ti (y := nI j) (by rw [nI_clamp (by omega)]; exact hc0.symm) ?_
            refine lv_aload_n hx hb d_La_law_753 rfl (lv_at hl 0 rfl) ?_
            refine lv_iload hx hb d_La_law_754 (lv_at hl 4 rfl) ?_
            refine lv_iconst (v := nI 2) hx hb d_La_law_756 (by decide +kernel) ?_
            refine lv_iadd hx hb d_La_law_757 ?_
            refine aw_ti (nI_add (6 * t) 2) ?_
            refine va_sld hx hb hX hbl hbA hS (i := (nI ((6 * t) + 2))) (vp_in_nI (by omega) (by omega)) d_La_law_758 ?_
            refine aw_ti (y := nI k) (by rw [nI_clamp (by omega)]; exact hfr.symm) ?_
            refine lv_aload_n hx hb d_La_law_759 rfl (lv_at hl 0 rfl) ?_
            refine lv_iload hx hb d_La_law_760 (lv_at hl 4 rfl) ?_
            refine lv_iconst (v := nI 3) hx hb d_La_law_762 (by decide +kernel) ?_
            refine lv_iadd hx hb d_La_law_763 ?_
            refine aw_ti (nI_add (6 * t) 3) ?_
            refine va_sld hx hb hX hbl hbA hS (i := (nI ((6 * t) + 3))) (vp_in_nI (by omega) (by omega)) d_La_law_764 ?_
            refine aw_ti (y := nI mm) (by rw [nI_clamp (by omega)]; exact hm0.symm) ?_
            refine lv_aload_n hx hb d_La_law_765 rfl (lv_at hl 3 rfl) ?_
            refine va_calli (vx_runSW (As := [.ref (aw_r ad 0), .int (nI j), .int (nI k), .int (nI mm), .ref (aw_o ad)]) (rest := []) ⟨hx, hb, hml, hown, hG⟩ (k_La_take11V l hst D g ad N0 zG zO zX zY zA zB zM zI zL zK zN zF zQ j k mm hj (by omega) (by omega) (by omega)) (aw_wW 5 hG gw_8_40 gw_8_38 gw_0_0 gw_8_39 rfl rfl hd_La_take ⟨Nat.le_of_ble_eq_true rfl, Nat.le_of_ble_eq_true rfl⟩) (ag_qS hP hD hSh hU hS) rfl rfl hl.1 rfl (lv_room (Nat.le_of_ble_eq_true rfl)) d_La_law_766 ⟨by omega, by omega⟩) hS (fun _ _ h => h) (fun _ h => h) ?_
            clear hP hD hSh hS
            intro x425 u8 t8 H locs ht _ ex425 hB _ _ hS
            obtain ⟨L, hP, hD, hSh⟩ := hB
            rw [ht] at hP
            clear ht
            subst ex425
            obtain ⟨zX426, ezX426⟩ : ∃ z : Nat → Nat → Int64, v_La_take11V_zX zO zX zY zA zB j k mm = z := ⟨_, rfl⟩
            rw [ezX426] at hSh
            obtain ⟨zY427, ezY427⟩ : ∃ z : Nat → Nat → Int32, v_La_take11V_zY zO zX zY zA zB j k mm = z := ⟨_, rfl⟩
            rw [ezY427] at hSh
            obtain ⟨zQ428, ezQ428⟩ : ∃ z : Int64, v_La_take11V_zQ zO zX zY zA zB j k mm = z := ⟨_, rfl⟩
            rw [ezQ428] at hSh
            refine lv_istore hx hb d_La_law_769 hl (by decide) rfl (fun ls hl => ?_)
            have hl : lv_has ls 8 [(5, .int (nI 0)), (0, .ref b), (1, .ref (aw_r ad 0)), (2, .ref (aw_m ad 0)), (3, .ref (aw_o ad)), (4, .int (nI (6 * t)))] := hl
            refine lv_aload_n hx hb d_La_law_771 rfl (lv_at hl 3 rfl) ?_
            refine lv_aload_n hx hb d_La_law_772 rfl (lv_at hl 1 rfl) ?_
            refine lv_iload hx hb d_La_law_773 (lv_at hl 5 rfl) ?_
            refine lv_iconst (v := nI 1) hx hb d_La_law_775 (by decide +kernel) ?_
            refine lv_iadd hx hb d_La_law_776 ?_
            refine aw_ti (nI_add (6 * t) 1) ?_
            refine va_sld hx hb hX hbl hbA hS (i := (nI ((6 * t) + 1))) (vp_in_nI (by omega) (by omega)) d_La_law_777 ?_
            refine aw_ti (y := nI j) (by rw [nI_clamp (by omega)]; exact hc0.symm) ?_
            refine lv_aload_n hx hb d_La_law_778 rfl (lv_at hl 1 rfl) ?_
            refine lv_iload hx hb d_La_law_779 (lv_at hl 5 rfl) ?_
            refine lv_iconst (v := nI 2) hx hb d_La_law_781 (by decide +kernel) ?_
            refine lv_iadd hx hb d_La_law_782 ?_
            refine aw_ti (nI_add (6 * t) 2) ?_
            refine va_sld hx hb hX hbl hbA hS (i := (nI ((6 * t) + 2))) (vp_in_nI (by omega) (by omega)) d_La_law_783 ?_
            refine aw_ti (y := nI k) (by rw [nI_clamp (by omega)]; exact hfr.symm) ?_
            refine lv_aload_n hx hb d_La_law_784 rfl (lv_at hl 1 rfl) ?_
            refine lv_iload hx hb d_La_law_785 (lv_at hl 5 rfl) ?_
            refine lv_iconst (v := nI 3) hx hb d_La_law_787 (by decide +kernel) ?_
            refine lv_iadd hx hb d_La_law_788 ?_
            refine aw_ti (nI_add (6 * t) 3) ?_
            refine va_sld hx hb hX hbl hbA hS (i := (nI ((6 * t) + 3))) (vp_in_nI (by omega) (by omega)) d_La_law_789 ?_
            refine aw_ti (y := nI mm) (by rw [nI_clamp (by omega)]; exact hm0.symm) ?_
            obtain ⟨_, he429⟩ := zr_M0 hSh
            refine va_calli (va_runV (As := [.int (nI j), .int (nI k), .int (nI mm)]) (rest := []) ⟨hx, hb, hml, hown, hG⟩ (k_Mo_take1V l D g ad N0 zG zO zX426 zY427 zA zB zM zI zL zK zN zF zQ428 j kc k mm hj (by omega) (by omega) hkc hci) (aw_wV 3 hG gw_12_49 gw_12_46 gw_0_10 gw_12_47 gw_12_48 rfl rfl hd_Mo_take ⟨Nat.le_of_ble_eq_true rfl, Nat.le_of_ble_eq_true rfl⟩) (ag_qV (va_recv hK hP rfl he429) hP hD hSh hU hS) rfl rfl hl.1 rfl (lv_room (Nat.le_of_ble_eq_true rfl)) d_La_law_790 ⟨by omega, by omega⟩) hS (fun _ _ h => h) (fun _ h => h) ?_
            clear hP hD hSh hS he429
            intro x430 u8 t8 H locs ht _ ex430 hB _ _ hS
            obtain ⟨L, hP, hD, hSh⟩ := hB
            rw [ht] at hP
            clear ht
            obtain ⟨zI431, ezI431⟩ : ∃ z : Nat → Nat → Int32, v_Mo_take1V_zI zI zL j kc k mm = z := ⟨_, rfl⟩
            rw [ezI431] at hSh
            obtain ⟨zL432, ezL432⟩ : ∃ z : Nat → Nat → Int64, v_Mo_take1V_zL zI zL j kc k mm = z := ⟨_, rfl⟩
            rw [ezL432] at hSh
            have ex430 := ex430.symm
            refine lv_istore hx hb d_La_law_793 hl (by decide) rfl (fun ls hl => ?_)
            have hl : lv_has ls 8 [(6, .int x430), (5, .int (nI 0)), (0, .ref b), (1, .ref (aw_r ad 0)), (2, .ref (aw_m ad 0)), (3, .ref (aw_o ad)), (4, .int (nI (6 * t)))] := hl
            refine lv_goto (tgt := 853) hx hb d_La_law_795 (by decide) ?_
            refine lv_iinc (k := 6) (v := nI (6 * t + 6)) hx hb d_La_law_853 hl rfl (aw_inc (6 * t) 6 6 (by decide +kernel)) (by decide) rfl (fun ls hl => ?_)
            have hl : lv_has ls 8 [(4, .int (nI (6 * t + 6))), (6, .int x430), (5, .int (nI 0)), (0, .ref b), (1, .ref (aw_r ad 0)), (2, .ref (aw_m ad 0)), (3, .ref (aw_o ad))] := hl
            refine lv_goto (tgt := 23) hx hb d_La_law_856 (by decide) ?_
            have hl := lv_sub hl (l' := [(0, .ref b), (1, .ref (aw_r ad 0)), (2, .ref (aw_m ad 0)), (3, .ref (aw_o ad)), (4, .int (nI (6 * t + 6)))]) [3, 4, 5, 6, 0] rfl
            refine W.widen (k := 85 + (t + 1)) (n := 1246 + 6 * (t + 1)) (by omega) (by omega) ?_
            have hR : az_R zG zO zX426 zY427 zA zB zM zI431 zL432 := by
              subst ex430 ezL432 ezI431 ezQ428 ezY427 ezX426
              exact r_take11_1 hR hj hs h0 hk hkc hci hco
            exact ih (t + 1) zG zO zX426 zY427 zA zB zM zI431 zL432 (nI kc) (az_wn kc) (nI 0) zQ428 _ _ L ls (by omega) hP hD hSh hR hS (by first | exact hl | simpa [Nat.mul_add] using hl)
          · refine lv_aload_n hx hb d_La_law_746 rfl (lv_at hl 1 rfl) ?_
            refine lv_aload_n hx hb d_La_law_747 rfl (lv_at hl 0 rfl) ?_
            refine lv_iload hx hb d_La_law_748 (lv_at hl 4 rfl) ?_
            refine lv_iconst (v := nI 1) hx hb d_La_law_750 (by decide +kernel) ?_
            refine lv_iadd hx hb d_La_law_751 ?_
            refine aw_ti (nI_add (6 * t) 1) ?_
            refine va_sld hx hb hX hbl hbA hS (i := (nI ((6 * t) + 1))) (vp_in_nI (by omega) (by omega)) d_La_law_752 ?_
            refine aw_ti (y := nI j) (by rw [nI_clamp (by omega)]; exact hc0.symm) ?_
            refine lv_aload_n hx hb d_La_law_753 rfl (lv_at hl 0 rfl) ?_
            refine lv_iload hx hb d_La_law_754 (lv_at hl 4 rfl) ?_
            refine lv_iconst (v := nI 2) hx hb d_La_law_756 (by decide +kernel) ?_
            refine lv_iadd hx hb d_La_law_757 ?_
            refine aw_ti (nI_add (6 * t) 2) ?_
            refine va_sld hx hb hX hbl hbA hS (i := (nI ((6 * t) + 2))) (vp_in_nI (by omega) (by omega)) d_La_law_758 ?_
            refine aw_ti (y := nI k) (by rw [nI_clamp (by omega)]; exact hfr.symm) ?_
            refine lv_aload_n hx hb d_La_law_759 rfl (lv_at hl 0 rfl) ?_
            refine lv_iload hx hb d_La_law_760 (lv_at hl 4 rfl) ?_
            refine lv_iconst (v := nI 3) hx hb d_La_law_762 (by decide +kernel) ?_
            refine lv_iadd hx hb d_La_law_763 ?_
            refine aw_ti (nI_add (6 * t) 3) ?_
            refine va_sld hx hb hX hbl hbA hS (i := (nI ((6 * t) + 3))) (vp_in_nI (by omega) (by omega)) d_La_law_764 ?_
            refine aw_ti (y := nI mm) (by rw [nI_clamp (by omega)]; exact hm0.symm) ?_
            refine lv_aload_n hx hb d_La_law_765 rfl (lv_at hl 3 rfl) ?_
            refine va_calli (vx_runSW (As := [.ref (aw_r ad 0), .int (nI j), .int (nI k), .int (nI mm), .ref (aw_o ad)]) (rest := []) ⟨hx, hb, hml, hown, hG⟩ (k_La_takeXs1V l hst D g ad N0 zG zO zX zY zA zB zM zI zL zK zN zF zQ j k mm hj (by omega) (by omega) (by omega)) (aw_wW 5 hG gw_8_40 gw_8_38 gw_0_0 gw_8_39 rfl rfl hd_La_take ⟨Nat.le_of_ble_eq_true rfl, Nat.le_of_ble_eq_true rfl⟩) (ag_qS hP hD hSh hU hS) rfl rfl hl.1 rfl (lv_room (Nat.le_of_ble_eq_true rfl)) d_La_law_766 ⟨by omega, by omega⟩) hS (fun _ _ h => h) (fun _ h => h) ?_
            clear hP hD hSh hS
            intro x433 u8 t8 H locs ht _ ex433 hB _ _ hS
            obtain ⟨L, hP, hD, hSh⟩ := hB
            rw [ht] at hP
            clear ht
            subst ex433
            refine lv_istore hx hb d_La_law_769 hl (by decide) rfl (fun ls hl => ?_)
            have hl : lv_has ls 8 [(5, .int (nI 2)), (0, .ref b), (1, .ref (aw_r ad 0)), (2, .ref (aw_m ad 0)), (3, .ref (aw_o ad)), (4, .int (nI (6 * t)))] := hl
            refine lv_aload_n hx hb d_La_law_771 rfl (lv_at hl 3 rfl) ?_
            refine lv_aload_n hx hb d_La_law_772 rfl (lv_at hl 1 rfl) ?_
            refine lv_iload hx hb d_La_law_773 (lv_at hl 5 rfl) ?_
            refine lv_iconst (v := nI 1) hx hb d_La_law_775 (by decide +kernel) ?_
            refine lv_iadd hx hb d_La_law_776 ?_
            refine aw_ti (nI_add (6 * t) 1) ?_
            refine va_sld hx hb hX hbl hbA hS (i := (nI ((6 * t) + 1))) (vp_in_nI (by omega) (by omega)) d_La_law_777 ?_
            refine aw_ti (y := nI j) (by rw [nI_clamp (by omega)]; exact hc0.symm) ?_
            refine lv_aload_n hx hb d_La_law_778 rfl (lv_at hl 1 rfl) ?_
            refine lv_iload hx hb d_La_law_779 (lv_at hl 5 rfl) ?_
            refine lv_iconst (v := nI 2) hx hb d_La_law_781 (by decide +kernel) ?_
            refine lv_iadd hx hb d_La_law_782 ?_
            refine aw_ti (nI_add (6 * t) 2) ?_
            refine va_sld hx hb hX hbl hbA hS (i := (nI ((6 * t) + 2))) (vp_in_nI (by omega) (by omega)) d_La_law_783 ?_
            refine aw_ti (y := nI k) (by rw [nI_clamp (by omega)]; exact hfr.symm) ?_
            refine lv_aload_n hx hb d_La_law_784 rfl (lv_at hl 1 rfl) ?_
            refine lv_iload hx hb d_La_law_785 (lv_at hl 5 rfl) ?_
            refine lv_iconst (v := nI 3) hx hb d_La_law_787 (by decide +kernel) ?_
            refine lv_iadd hx hb d_La_law_788 ?_
            refine aw_ti (nI_add (6 * t) 3) ?_
            refine va_sld hx hb hX hbl hbA hS (i := (nI ((6 * t) + 3))) (vp_in_nI (by omega) (by omega)) d_La_law_789 ?_
            refine aw_ti (y := nI mm) (by rw [nI_clamp (by omega)]; exact hm0.symm) ?_
            obtain ⟨_, he434⟩ := zr_M0 hSh
            refine va_calli (va_runV (As := [.int (nI j), .int (nI k), .int (nI mm)]) (rest := []) ⟨hx, hb, hml, hown, hG⟩ (k_Mo_takeXsV l D g ad N0 zG zO zX zY zA zB zM zI zL zK zN zF zQ j k mm hj (by omega) (by omega)) (aw_wV 3 hG gw_12_49 gw_12_46 gw_0_10 gw_12_47 gw_12_48 rfl rfl hd_Mo_take ⟨Nat.le_of_ble_eq_true rfl, Nat.le_of_ble_eq_true rfl⟩) (ag_qV (va_recv hK hP rfl he434) hP hD hSh hU hS) rfl rfl hl.1 rfl (lv_room (Nat.le_of_ble_eq_true rfl)) d_La_law_790 ⟨by omega, by omega⟩) hS (fun _ _ h => h) (fun _ h => h) ?_
            clear hP hD hSh hS he434
            intro x435 u8 t8 H locs ht _ ex435 hB _ _ hS
            obtain ⟨L, hP, hD, hSh⟩ := hB
            rw [ht] at hP
            clear ht
            have ex435 := ex435.symm
            refine lv_istore hx hb d_La_law_793 hl (by decide) rfl (fun ls hl => ?_)
            have hl : lv_has ls 8 [(6, .int x435), (5, .int (nI 2)), (0, .ref b), (1, .ref (aw_r ad 0)), (2, .ref (aw_m ad 0)), (3, .ref (aw_o ad)), (4, .int (nI (6 * t)))] := hl
            refine lv_goto (tgt := 853) hx hb d_La_law_795 (by decide) ?_
            refine lv_iinc (k := 6) (v := nI (6 * t + 6)) hx hb d_La_law_853 hl rfl (aw_inc (6 * t) 6 6 (by decide +kernel)) (by decide) rfl (fun ls hl => ?_)
            have hl : lv_has ls 8 [(4, .int (nI (6 * t + 6))), (6, .int x435), (5, .int (nI 2)), (0, .ref b), (1, .ref (aw_r ad 0)), (2, .ref (aw_m ad 0)), (3, .ref (aw_o ad))] := hl
            refine lv_goto (tgt := 23) hx hb d_La_law_856 (by decide) ?_
            have hl := lv_sub hl (l' := [(0, .ref b), (1, .ref (aw_r ad 0)), (2, .ref (aw_m ad 0)), (3, .ref (aw_o ad)), (4, .int (nI (6 * t + 6)))]) [3, 4, 5, 6, 0] rfl
            refine W.widen (k := 85 + (t + 1)) (n := 1246 + 6 * (t + 1)) (by omega) (by omega) ?_
            exact ih (t + 1) zG zO zX zY zA zB zM zI zL zK zN (nI 2) zQ _ _ L ls (by omega) hP hD hSh hR hS (by first | exact hl | simpa [Nat.mul_add] using hl)
    · refine aw_ti (y := nI 12) (by rw [hs3]) ?_
      refine lv_tableIn (tgt := 798) (off := 758) hx hb d_La_law_40 (by decide +kernel) (by decide +kernel) (by decide +kernel) (by decide) ?_
      obtain ⟨c0, hc0⟩ : ∃ z : Int32, z = xs (6 * t + 1) := ⟨_, rfl⟩
      rcases aw_rng 4 (by decide) c0 with hc | ⟨j, hj, rfl⟩
      · refine lv_aload_n hx hb d_La_law_798 rfl (lv_at hl 1 rfl) ?_
        refine lv_aload_n hx hb d_La_law_799 rfl (lv_at hl 0 rfl) ?_
        refine lv_iload hx hb d_La_law_800 (lv_at hl 4 rfl) ?_
        refine lv_iconst (v := nI 1) hx hb d_La_law_802 (by decide +kernel) ?_
        refine lv_iadd hx hb d_La_law_803 ?_
        refine aw_ti (nI_add (6 * t) 1) ?_
        refine va_sld hx hb hX hbl hbA hS (i := (nI ((6 * t) + 1))) (vp_in_nI (by omega) (by omega)) d_La_law_804 ?_
        refine aw_ti (y := c0) (by rw [nI_clamp (by omega)]; exact hc0.symm) ?_
        refine lv_aload_n hx hb d_La_law_805 rfl (lv_at hl 3 rfl) ?_
        refine va_calli (vx_runSW (As := [.ref (aw_r ad 0), .int c0, .ref (aw_o ad)]) (rest := []) ⟨hx, hb, hml, hown, hG⟩ (k_La_tagXcV l hst D g ad N0 zG zO zX zY zA zB zM zI zL zK zN zF zQ c0 hc) (aw_wW 3 hG gw_9_2 gw_9_0 gw_0_0 gw_9_1 rfl rfl hd_La_tag ⟨Nat.le_of_ble_eq_true rfl, Nat.le_of_ble_eq_true rfl⟩) (ag_qS hP hD hSh hU hS) rfl rfl hl.1 rfl (lv_room (Nat.le_of_ble_eq_true rfl)) d_La_law_806 ⟨by omega, by omega⟩) hS (fun _ _ h => h) (fun _ h => h) ?_
        clear hP hD hSh hS
        intro x436 u8 t8 H locs ht _ ex436 hB _ _ hS
        obtain ⟨L, hP, hD, hSh⟩ := hB
        rw [ht] at hP
        clear ht
        subst ex436
        refine lv_istore hx hb d_La_law_809 hl (by decide) rfl (fun ls hl => ?_)
        have hl : lv_has ls 8 [(5, .int (nI 1)), (0, .ref b), (1, .ref (aw_r ad 0)), (2, .ref (aw_m ad 0)), (3, .ref (aw_o ad)), (4, .int (nI (6 * t)))] := hl
        refine lv_aload_n hx hb d_La_law_811 rfl (lv_at hl 3 rfl) ?_
        refine lv_aload_n hx hb d_La_law_812 rfl (lv_at hl 1 rfl) ?_
        refine lv_iload hx hb d_La_law_813 (lv_at hl 5 rfl) ?_
        refine lv_iconst (v := nI 1) hx hb d_La_law_815 (by decide +kernel) ?_
        refine lv_iadd hx hb d_La_law_816 ?_
        refine aw_ti (nI_add (6 * t) 1) ?_
        refine va_sld hx hb hX hbl hbA hS (i := (nI ((6 * t) + 1))) (vp_in_nI (by omega) (by omega)) d_La_law_817 ?_
        refine aw_ti (y := c0) (by rw [nI_clamp (by omega)]; exact hc0.symm) ?_
        obtain ⟨_, he437⟩ := zr_M0 hSh
        refine va_calll (va_runV (As := [.int c0]) (rest := []) ⟨hx, hb, hml, hown, hG⟩ (k_Mo_tagXcV l D g ad N0 zG zO zX zY zA zB zM zI zL zK zN zF zQ c0 hc) (aw_wV 1 hG gw_12_56 gw_12_53 gw_0_10 gw_12_54 gw_12_55 rfl rfl hd_Mo_tag ⟨Nat.le_of_ble_eq_true rfl, Nat.le_of_ble_eq_true rfl⟩) (ag_qV (va_recv hK hP rfl he437) hP hD hSh hU hS) rfl rfl hl.1 rfl (lv_room (Nat.le_of_ble_eq_true rfl)) d_La_law_818 ⟨by omega, by omega⟩) hS (fun _ _ h => h) (fun _ h => h) ?_
        clear hP hD hSh hS he437
        intro y438 u8 t8 H locs ht _ ey438 hB _ _ hS
        obtain ⟨L, hP, hD, hSh⟩ := hB
        rw [ht] at hP
        clear ht
        have ey438 := ey438.symm
        refine lv_lstore hx hb d_La_law_821 hl (by decide) rfl (fun ls hl => ?_)
        have hl : lv_has ls 8 [(6, .long y438), (5, .int (nI 1)), (0, .ref b), (1, .ref (aw_r ad 0)), (2, .ref (aw_m ad 0)), (3, .ref (aw_o ad)), (4, .int (nI (6 * t)))] := hl
        refine lv_aload_n hx hb d_La_law_823 rfl (lv_at hl 4 rfl) ?_
        obtain ⟨_, he439⟩ := zr_M0 hSh
        refine va_calli (va_runV (As := []) (rest := []) ⟨hx, hb, hml, hown, hG⟩ (k_Mo_thrownV l D g ad N0 zG zO zX zY zA zB zM zI zL zK zN (nI 1) zQ) (aw_wV 0 hG gw_10_27 gw_10_24 gw_0_10 gw_10_25 gw_10_26 rfl rfl hd_Mo_thrown ⟨Nat.le_of_ble_eq_true rfl, Nat.le_of_ble_eq_true rfl⟩) (ag_qV (va_recv hK hP rfl he439) hP hD hSh hU hS) rfl rfl hl.1 rfl (lv_room (Nat.le_of_ble_eq_true rfl)) d_La_law_824 ⟨by omega, by omega⟩) hS (fun _ _ h => h) (fun _ h => h) (fun x440 u8 t8 H locs ht _ ex440 hB _ _ hS => ?_)
        obtain ⟨L, hP, hD, hSh⟩ := hB
        rw [ht] at hP
        clear ht
        have ex440 : x440 = nI 1 := ex440
        subst ex440
        refine lv_iload hx hb d_La_law_827 (lv_at hl 1 rfl) ?_
        refine lv_icmp_eq (tgt := 834) hx hb d_La_law_829 (by decide) (fun _ => ?_) (fun h => absurd (by decide +kernel) h)
        refine lv_iload hx hb d_La_law_834 (lv_at hl 1 rfl) ?_
        refine lv_if_ne (tgt := 850) hx hb d_La_law_836 (by decide) (fun _ => ?_) (fun h => absurd h (by decide +kernel))
        refine lv_goto (tgt := 853) hx hb d_La_law_850 (by decide) ?_
        refine lv_iinc (k := 6) (v := nI (6 * t + 6)) hx hb d_La_law_853 hl rfl (aw_inc (6 * t) 6 6 (by decide +kernel)) (by decide) rfl (fun ls hl => ?_)
        have hl : lv_has ls 8 [(4, .int (nI (6 * t + 6))), (6, .long y438), (5, .int (nI 1)), (0, .ref b), (1, .ref (aw_r ad 0)), (2, .ref (aw_m ad 0)), (3, .ref (aw_o ad))] := hl
        refine lv_goto (tgt := 23) hx hb d_La_law_856 (by decide) ?_
        have hl := lv_sub hl (l' := [(0, .ref b), (1, .ref (aw_r ad 0)), (2, .ref (aw_m ad 0)), (3, .ref (aw_o ad)), (4, .int (nI (6 * t + 6)))]) [3, 4, 5, 6, 0] rfl
        refine W.widen (k := 85 + (t + 1)) (n := 1246 + 6 * (t + 1)) (by omega) (by omega) ?_
        exact ih (t + 1) zG zO zX zY zA zB zM zI zL zK zN (nI 1) zQ _ _ L ls (by omega) hP hD hSh hR hS (by first | exact hl | simpa [Nat.mul_add] using hl)
      · have hgj := hSh.2.2.2.2.1 j hj
        have hq1 : (zM j).1 = (zG j).1 := by rw [hR.1 j hj]
        have hq2 : (zM j).2 = (zG j).2 := by rw [hR.1 j hj]
        by_cases hs : (zG j).1 = 3 ∧ (zG j).2 = 5
        · obtain ⟨kc, hkc, hci, hco⟩ := hR.2.1 j hj (by omega)
          refine lv_aload_n hx hb d_La_law_798 rfl (lv_at hl 1 rfl) ?_
          refine lv_aload_n hx hb d_La_law_799 rfl (lv_at hl 0 rfl) ?_
          refine lv_iload hx hb d_La_law_800 (lv_at hl 4 rfl) ?_
          refine lv_iconst (v := nI 1) hx hb d_La_law_802 (by decide +kernel) ?_
          refine lv_iadd hx hb d_La_law_803 ?_
          refine aw_ti (nI_add (6 * t) 1) ?_
          refine va_sld hx hb hX hbl hbA hS (i := (nI ((6 * t) + 1))) (vp_in_nI (by omega) (by omega)) d_La_law_804 ?_
          refine aw_ti (y := nI j) (by rw [nI_clamp (by omega)]; exact hc0.symm) ?_
          refine lv_aload_n hx hb d_La_law_805 rfl (lv_at hl 3 rfl) ?_
          refine va_calli (vx_runSW (As := [.ref (aw_r ad 0), .int (nI j), .ref (aw_o ad)]) (rest := []) ⟨hx, hb, hml, hown, hG⟩ (k_La_tag1V l hst D g ad N0 zG zO zX zY zA zB zM zI zL zK zN zF zQ j hj (by omega)) (aw_wW 3 hG gw_9_2 gw_9_0 gw_0_0 gw_9_1 rfl rfl hd_La_tag ⟨Nat.le_of_ble_eq_true rfl, Nat.le_of_ble_eq_true rfl⟩) (ag_qS hP hD hSh hU hS) rfl rfl hl.1 rfl (lv_room (Nat.le_of_ble_eq_true rfl)) d_La_law_806 ⟨by omega, by omega⟩) hS (fun _ _ h => h) (fun _ h => h) ?_
          clear hP hD hSh hS
          intro x441 u8 t8 H locs ht _ ex441 hB _ _ hS
          obtain ⟨L, hP, hD, hSh⟩ := hB
          rw [ht] at hP
          clear ht
          subst ex441
          obtain ⟨zX442, ezX442⟩ : ∃ z : Nat → Nat → Int64, v_La_tag1V_zX zO zX zY zA j = z := ⟨_, rfl⟩
          rw [ezX442] at hSh
          obtain ⟨zY443, ezY443⟩ : ∃ z : Nat → Nat → Int32, v_La_tag1V_zY zO zX zY zA j = z := ⟨_, rfl⟩
          rw [ezY443] at hSh
          obtain ⟨zQ444, ezQ444⟩ : ∃ z : Int64, v_La_tag1V_zQ zO zX zY zA j = z := ⟨_, rfl⟩
          rw [ezQ444] at hSh
          refine lv_istore hx hb d_La_law_809 hl (by decide) rfl (fun ls hl => ?_)
          have hl : lv_has ls 8 [(5, .int (nI 0)), (0, .ref b), (1, .ref (aw_r ad 0)), (2, .ref (aw_m ad 0)), (3, .ref (aw_o ad)), (4, .int (nI (6 * t)))] := hl
          refine lv_aload_n hx hb d_La_law_811 rfl (lv_at hl 3 rfl) ?_
          refine lv_aload_n hx hb d_La_law_812 rfl (lv_at hl 1 rfl) ?_
          refine lv_iload hx hb d_La_law_813 (lv_at hl 5 rfl) ?_
          refine lv_iconst (v := nI 1) hx hb d_La_law_815 (by decide +kernel) ?_
          refine lv_iadd hx hb d_La_law_816 ?_
          refine aw_ti (nI_add (6 * t) 1) ?_
          refine va_sld hx hb hX hbl hbA hS (i := (nI ((6 * t) + 1))) (vp_in_nI (by omega) (by omega)) d_La_law_817 ?_
          refine aw_ti (y := nI j) (by rw [nI_clamp (by omega)]; exact hc0.symm) ?_
          obtain ⟨_, he445⟩ := zr_M0 hSh
          refine va_calll (va_runV (As := [.int (nI j)]) (rest := []) ⟨hx, hb, hml, hown, hG⟩ (k_Mo_tag1V l D g ad N0 zG zO zX442 zY443 zA zB zM zI zL zK zN zF zQ444 j kc hj (by omega) hkc hci) (aw_wV 1 hG gw_12_56 gw_12_53 gw_0_10 gw_12_54 gw_12_55 rfl rfl hd_Mo_tag ⟨Nat.le_of_ble_eq_true rfl, Nat.le_of_ble_eq_true rfl⟩) (ag_qV (va_recv hK hP rfl he445) hP hD hSh hU hS) rfl rfl hl.1 rfl (lv_room (Nat.le_of_ble_eq_true rfl)) d_La_law_818 ⟨by omega, by omega⟩) hS (fun _ _ h => h) (fun _ h => h) ?_
          clear hP hD hSh hS he445
          intro y446 u8 t8 H locs ht _ ey446 hB _ _ hS
          obtain ⟨L, hP, hD, hSh⟩ := hB
          rw [ht] at hP
          clear ht
          obtain ⟨zI447, ezI447⟩ : ∃ z : Nat → Nat → Int32, v_Mo_tag1V_zI zI zL j kc = z := ⟨_, rfl⟩
          rw [ezI447] at hSh
          obtain ⟨zL448, ezL448⟩ : ∃ z : Nat → Nat → Int64, v_Mo_tag1V_zL zI zL j kc = z := ⟨_, rfl⟩
          rw [ezL448] at hSh
          have ey446 := ey446.symm
          refine lv_lstore hx hb d_La_law_821 hl (by decide) rfl (fun ls hl => ?_)
          have hl : lv_has ls 8 [(6, .long y446), (5, .int (nI 0)), (0, .ref b), (1, .ref (aw_r ad 0)), (2, .ref (aw_m ad 0)), (3, .ref (aw_o ad)), (4, .int (nI (6 * t)))] := hl
          refine lv_aload_n hx hb d_La_law_823 rfl (lv_at hl 4 rfl) ?_
          obtain ⟨_, he449⟩ := zr_M0 hSh
          refine va_calli (va_runV (As := []) (rest := []) ⟨hx, hb, hml, hown, hG⟩ (k_Mo_thrownV l D g ad N0 zG zO zX442 zY443 zA zB zM zI447 zL448 (nI kc) (az_wn kc) (nI 0) zQ444) (aw_wV 0 hG gw_10_27 gw_10_24 gw_0_10 gw_10_25 gw_10_26 rfl rfl hd_Mo_thrown ⟨Nat.le_of_ble_eq_true rfl, Nat.le_of_ble_eq_true rfl⟩) (ag_qV (va_recv hK hP rfl he449) hP hD hSh hU hS) rfl rfl hl.1 rfl (lv_room (Nat.le_of_ble_eq_true rfl)) d_La_law_824 ⟨by omega, by omega⟩) hS (fun _ _ h => h) (fun _ h => h) (fun x450 u8 t8 H locs ht _ ex450 hB _ _ hS => ?_)
          obtain ⟨L, hP, hD, hSh⟩ := hB
          rw [ht] at hP
          clear ht
          have ex450 : x450 = nI 0 := ex450
          subst ex450
          refine lv_iload hx hb d_La_law_827 (lv_at hl 1 rfl) ?_
          refine lv_icmp_eq (tgt := 834) hx hb d_La_law_829 (by decide) (fun _ => ?_) (fun h => absurd (by decide +kernel) h)
          refine lv_iload hx hb d_La_law_834 (lv_at hl 1 rfl) ?_
          refine lv_if_ne (tgt := 850) hx hb d_La_law_836 (by decide) (fun h => absurd (by decide +kernel) h) (fun _ => ?_)
          refine lv_aload_n hx hb d_La_law_839 rfl (lv_at hl 5 rfl) ?_
          refine lv_iconst (v := nI 0) hx hb d_La_law_840 (by decide +kernel) ?_
          obtain ⟨f452, hc453, he451⟩ := zr_O0 hSh
          refine aw_lld hx hb hK hP 84 1 he451 rfl (k := 0) (by omega) (by decide) d_La_law_841 ?_
          clear he451
          refine aw_tl (y := zQ444) hc453 ?_
          refine lv_lload hx hb d_La_law_842 (lv_at hl 0 rfl) ?_
          refine W.lcmp hx hb d_La_law_844 ?_
          have hcmp454 : zQ444 = y446 := by
            subst ey446 ezL448 ezI447 ezQ444 ezY443 ezX442
            exact q_tag1 hR hj hs hkc hci hco
          refine aw_ti (y := nI 0) (by rw [hcmp454]; exact aw_cmps _) ?_
          refine lv_if_eq (tgt := 850) hx hb d_La_law_845 (by decide) (fun _ => ?_) (fun h => absurd (by decide +kernel) h)
          refine lv_goto (tgt := 853) hx hb d_La_law_850 (by decide) ?_
          refine lv_iinc (k := 6) (v := nI (6 * t + 6)) hx hb d_La_law_853 hl rfl (aw_inc (6 * t) 6 6 (by decide +kernel)) (by decide) rfl (fun ls hl => ?_)
          have hl : lv_has ls 8 [(4, .int (nI (6 * t + 6))), (6, .long y446), (5, .int (nI 0)), (0, .ref b), (1, .ref (aw_r ad 0)), (2, .ref (aw_m ad 0)), (3, .ref (aw_o ad))] := hl
          refine lv_goto (tgt := 23) hx hb d_La_law_856 (by decide) ?_
          have hl := lv_sub hl (l' := [(0, .ref b), (1, .ref (aw_r ad 0)), (2, .ref (aw_m ad 0)), (3, .ref (aw_o ad)), (4, .int (nI (6 * t + 6)))]) [3, 4, 5, 6, 0] rfl
          refine W.widen (k := 85 + (t + 1)) (n := 1246 + 6 * (t + 1)) (by omega) (by omega) ?_
          have hR : az_R zG zO zX442 zY443 zA zB zM zI447 zL448 := by
            subst ey446 ezL448 ezI447 ezQ444 ezY443 ezX442
            exact r_tag1 hR hj hs hkc hci hco
          exact ih (t + 1) zG zO zX442 zY443 zA zB zM zI447 zL448 (nI kc) (az_wn kc) (nI 0) zQ444 _ _ L ls (by omega) hP hD hSh hR hS (by first | exact hl | simpa [Nat.mul_add] using hl)
        · refine lv_aload_n hx hb d_La_law_798 rfl (lv_at hl 1 rfl) ?_
          refine lv_aload_n hx hb d_La_law_799 rfl (lv_at hl 0 rfl) ?_
          refine lv_iload hx hb d_La_law_800 (lv_at hl 4 rfl) ?_
          refine lv_iconst (v := nI 1) hx hb d_La_law_802 (by decide +kernel) ?_
          refine lv_iadd hx hb d_La_law_803 ?_
          refine aw_ti (nI_add (6 * t) 1) ?_
          refine va_sld hx hb hX hbl hbA hS (i := (nI ((6 * t) + 1))) (vp_in_nI (by omega) (by omega)) d_La_law_804 ?_
          refine aw_ti (y := nI j) (by rw [nI_clamp (by omega)]; exact hc0.symm) ?_
          refine lv_aload_n hx hb d_La_law_805 rfl (lv_at hl 3 rfl) ?_
          refine va_calli (vx_runSW (As := [.ref (aw_r ad 0), .int (nI j), .ref (aw_o ad)]) (rest := []) ⟨hx, hb, hml, hown, hG⟩ (k_La_tagXsV l hst D g ad N0 zG zO zX zY zA zB zM zI zL zK zN zF zQ j hj (by omega)) (aw_wW 3 hG gw_9_2 gw_9_0 gw_0_0 gw_9_1 rfl rfl hd_La_tag ⟨Nat.le_of_ble_eq_true rfl, Nat.le_of_ble_eq_true rfl⟩) (ag_qS hP hD hSh hU hS) rfl rfl hl.1 rfl (lv_room (Nat.le_of_ble_eq_true rfl)) d_La_law_806 ⟨by omega, by omega⟩) hS (fun _ _ h => h) (fun _ h => h) ?_
          clear hP hD hSh hS
          intro x455 u8 t8 H locs ht _ ex455 hB _ _ hS
          obtain ⟨L, hP, hD, hSh⟩ := hB
          rw [ht] at hP
          clear ht
          subst ex455
          refine lv_istore hx hb d_La_law_809 hl (by decide) rfl (fun ls hl => ?_)
          have hl : lv_has ls 8 [(5, .int (nI 2)), (0, .ref b), (1, .ref (aw_r ad 0)), (2, .ref (aw_m ad 0)), (3, .ref (aw_o ad)), (4, .int (nI (6 * t)))] := hl
          refine lv_aload_n hx hb d_La_law_811 rfl (lv_at hl 3 rfl) ?_
          refine lv_aload_n hx hb d_La_law_812 rfl (lv_at hl 1 rfl) ?_
          refine lv_iload hx hb d_La_law_813 (lv_at hl 5 rfl) ?_
          refine lv_iconst (v := nI 1) hx hb d_La_law_815 (by decide +kernel) ?_
          refine lv_iadd hx hb d_La_law_816 ?_
          refine aw_ti (nI_add (6 * t) 1) ?_
          refine va_sld hx hb hX hbl hbA hS (i := (nI ((6 * t) + 1))) (vp_in_nI (by omega) (by omega)) d_La_law_817 ?_
          refine aw_ti (y := nI j) (by rw [nI_clamp (by omega)]; exact hc0.symm) ?_
          obtain ⟨_, he456⟩ := zr_M0 hSh
          refine va_calll (va_runV (As := [.int (nI j)]) (rest := []) ⟨hx, hb, hml, hown, hG⟩ (k_Mo_tagXsV l D g ad N0 zG zO zX zY zA zB zM zI zL zK zN zF zQ j hj (by omega)) (aw_wV 1 hG gw_12_56 gw_12_53 gw_0_10 gw_12_54 gw_12_55 rfl rfl hd_Mo_tag ⟨Nat.le_of_ble_eq_true rfl, Nat.le_of_ble_eq_true rfl⟩) (ag_qV (va_recv hK hP rfl he456) hP hD hSh hU hS) rfl rfl hl.1 rfl (lv_room (Nat.le_of_ble_eq_true rfl)) d_La_law_818 ⟨by omega, by omega⟩) hS (fun _ _ h => h) (fun _ h => h) ?_
          clear hP hD hSh hS he456
          intro y457 u8 t8 H locs ht _ ey457 hB _ _ hS
          obtain ⟨L, hP, hD, hSh⟩ := hB
          rw [ht] at hP
          clear ht
          have ey457 := ey457.symm
          refine lv_lstore hx hb d_La_law_821 hl (by decide) rfl (fun ls hl => ?_)
          have hl : lv_has ls 8 [(6, .long y457), (5, .int (nI 2)), (0, .ref b), (1, .ref (aw_r ad 0)), (2, .ref (aw_m ad 0)), (3, .ref (aw_o ad)), (4, .int (nI (6 * t)))] := hl
          refine lv_aload_n hx hb d_La_law_823 rfl (lv_at hl 4 rfl) ?_
          obtain ⟨_, he458⟩ := zr_M0 hSh
          refine va_calli (va_runV (As := []) (rest := []) ⟨hx, hb, hml, hown, hG⟩ (k_Mo_thrownV l D g ad N0 zG zO zX zY zA zB zM zI zL zK zN (nI 2) zQ) (aw_wV 0 hG gw_10_27 gw_10_24 gw_0_10 gw_10_25 gw_10_26 rfl rfl hd_Mo_thrown ⟨Nat.le_of_ble_eq_true rfl, Nat.le_of_ble_eq_true rfl⟩) (ag_qV (va_recv hK hP rfl he458) hP hD hSh hU hS) rfl rfl hl.1 rfl (lv_room (Nat.le_of_ble_eq_true rfl)) d_La_law_824 ⟨by omega, by omega⟩) hS (fun _ _ h => h) (fun _ h => h) (fun x459 u8 t8 H locs ht _ ex459 hB _ _ hS => ?_)
          obtain ⟨L, hP, hD, hSh⟩ := hB
          rw [ht] at hP
          clear ht
          have ex459 : x459 = nI 2 := ex459
          subst ex459
          refine lv_iload hx hb d_La_law_827 (lv_at hl 1 rfl) ?_
          refine lv_icmp_eq (tgt := 834) hx hb d_La_law_829 (by decide) (fun _ => ?_) (fun h => absurd (by decide +kernel) h)
          refine lv_iload hx hb d_La_law_834 (lv_at hl 1 rfl) ?_
          refine lv_if_ne (tgt := 850) hx hb d_La_law_836 (by decide) (fun _ => ?_) (fun h => absurd h (by decide +kernel))
          refine lv_goto (tgt := 853) hx hb d_La_law_850 (by decide) ?_
          refine lv_iinc (k := 6) (v := nI (6 * t + 6)) hx hb d_La_law_853 hl rfl (aw_inc (6 * t) 6 6 (by decide +kernel)) (by decide) rfl (fun ls hl => ?_)
          have hl : lv_has ls 8 [(4, .int (nI (6 * t + 6))), (6, .long y457), (5, .int (nI 2)), (0, .ref b), (1, .ref (aw_r ad 0)), (2, .ref (aw_m ad 0)), (3, .ref (aw_o ad))] := hl
          refine lv_goto (tgt := 23) hx hb d_La_law_856 (by decide) ?_
          have hl := lv_sub hl (l' := [(0, .ref b), (1, .ref (aw_r ad 0)), (2, .ref (aw_m ad 0)), (3, .ref (aw_o ad)), (4, .int (nI (6 * t + 6)))]) [3, 4, 5, 6, 0] rfl
          refine W.widen (k := 85 + (t + 1)) (n := 1246 + 6 * (t + 1)) (by omega) (by omega) ?_
          exact ih (t + 1) zG zO zX zY zA zB zM zI zL zK zN (nI 2) zQ _ _ L ls (by omega) hP hD hSh hR hS (by first | exact hl | simpa [Nat.mul_add] using hl)
    · refine aw_ti (y := nI 13) (by rw [hs3]) ?_
      refine lv_tableOut (tgt := 853) hx hb d_La_law_40 (by decide +kernel) (by decide) ?_
      refine lv_iinc (k := 4) (v := nI (6 * t + 6)) hx hb d_La_law_853 hl rfl (aw_inc (6 * t) 6 6 (by decide +kernel)) (by decide) rfl (fun ls hl => ?_)
      have hl : lv_has ls 8 [(4, .int (nI (6 * t + 6))), (0, .ref b), (1, .ref (aw_r ad 0)), (2, .ref (aw_m ad 0)), (3, .ref (aw_o ad))] := hl
      refine lv_goto (tgt := 23) hx hb d_La_law_856 (by decide) ?_
      have hl := lv_sub hl (l' := [(0, .ref b), (1, .ref (aw_r ad 0)), (2, .ref (aw_m ad 0)), (3, .ref (aw_o ad)), (4, .int (nI (6 * t + 6)))]) [1, 2, 3, 4, 0] rfl
      refine W.widen (k := 85 + (t + 1)) (n := 1246 + 6 * (t + 1)) (by omega) (by omega) ?_
      exact ih (t + 1) zG zO zX zY zA zB zM zI zL zK zN zF zQ _ _ L ls (by omega) hP hD hSh hR hS (by first | exact hl | simpa [Nat.mul_add] using hl)
    · refine aw_ti (y := nI 14) (by rw [hs3]) ?_
      refine lv_tableOut (tgt := 853) hx hb d_La_law_40 (by decide +kernel) (by decide) ?_
      refine lv_iinc (k := 4) (v := nI (6 * t + 6)) hx hb d_La_law_853 hl rfl (aw_inc (6 * t) 6 6 (by decide +kernel)) (by decide) rfl (fun ls hl => ?_)
      have hl : lv_has ls 8 [(4, .int (nI (6 * t + 6))), (0, .ref b), (1, .ref (aw_r ad 0)), (2, .ref (aw_m ad 0)), (3, .ref (aw_o ad))] := hl
      refine lv_goto (tgt := 23) hx hb d_La_law_856 (by decide) ?_
      have hl := lv_sub hl (l' := [(0, .ref b), (1, .ref (aw_r ad 0)), (2, .ref (aw_m ad 0)), (3, .ref (aw_o ad)), (4, .int (nI (6 * t + 6)))]) [1, 2, 3, 4, 0] rfl
      refine W.widen (k := 85 + (t + 1)) (n := 1246 + 6 * (t + 1)) (by omega) (by omega) ?_
      exact ih (t + 1) zG zO zX zY zA zB zM zI zL zK zN zF zQ _ _ L ls (by omega) hP hD hSh hR hS (by first | exact hl | simpa [Nat.mul_add] using hl)
    · refine aw_ti (y := nI 15) (by rw [hs3]) ?_
      refine lv_tableOut (tgt := 853) hx hb d_La_law_40 (by decide +kernel) (by decide) ?_
      refine lv_iinc (k := 4) (v := nI (6 * t + 6)) hx hb d_La_law_853 hl rfl (aw_inc (6 * t) 6 6 (by decide +kernel)) (by decide) rfl (fun ls hl => ?_)
      have hl : lv_has ls 8 [(4, .int (nI (6 * t + 6))), (0, .ref b), (1, .ref (aw_r ad 0)), (2, .ref (aw_m ad 0)), (3, .ref (aw_o ad))] := hl
      refine lv_goto (tgt := 23) hx hb d_La_law_856 (by decide) ?_
      have hl := lv_sub hl (l' := [(0, .ref b), (1, .ref (aw_r ad 0)), (2, .ref (aw_m ad 0)), (3, .ref (aw_o ad)), (4, .int (nI (6 * t + 6)))]) [1, 2, 3, 4, 0] rfl
      refine W.widen (k := 85 + (t + 1)) (n := 1246 + 6 * (t + 1)) (by omega) (by omega) ?_
      exact ih (t + 1) zG zO zX zY zA zB zM zI zL zK zN zF zQ _ _ L ls (by omega) hP hD hSh hR hS (by first | exact hl | simpa [Nat.mul_add] using hl)
