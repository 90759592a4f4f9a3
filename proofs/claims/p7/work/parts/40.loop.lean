set_option maxHeartbeats 40000000 in
set_option maxRecDepth 100000 in
theorem law_loop {p : Program} {e : Env} {s : State} {m : MethodId} {below : List Frame} {meth : Method} {c : Code} (l : Launch) (hst : l.stackTraces = false) {b Ln : Nat} {xs : Nat → Int32} (hLn : Ln ≤ 3072) (C0 : lw_At p s m meth c b Ln xs) {D : va_G} {g : Nat → ClassId} {ad : Nat → Nat} {N0 : Nat} (hN0e : N0 = s.heap.size) (hU : aw_U D g N0 s) :
    ∀ (d t : Nat) (zG : Nat → Nat × Nat) (zO : Nat → Nat) (zX : Nat → Nat → Int64) (zY : Nat → Nat → Int32) (zA : Nat → Nat → Nat → Int32) (zB : Nat → Int32) (zM : Nat → Nat × Nat) (zI : Nat → Nat → Int32) (zL : Nat → Nat → Int64) (zK : Int32) (zN : Nat) (zF : Int32) (zQ : Int64) (H : Heap) (locs : List Loc) (L : va_W) (ls : Array Slot), t + d = Ln / 6 → va_P D aw_C L H → va_D (aw_Z N0) L → az_Sh g ad zG zO zX zY zA zB zM zI zL zK zN zF zQ L → az_R zG zO zX zY zA zB zM zI zL → va_S (aw_Z N0) s.heap H locs → lv_has ls 8 [(0, .ref b), (1, .ref (aw_r ad 0)), (2, .ref (aw_m ad 0)), (3, .ref (aw_o ad)), (4, .int (nI (6 * t)))] → W p l e room_1 s m #[Value.ref b] below meth c H locs (85 + t) (1246 + 6 * t) (lw_Z below #[Value.ref b] s) (F0 m 23 ls []) := by
  obtain ⟨hx, hb, hr, hml, hown, hts, hX, hbl, hlocks, hgv⟩ := C0
  have hown : s.vm.findClass "RuleCiphersLaw" = some m.cls := hown
  have hG : ∀ w ∈ aw_G, w.before #[Value.ref b] s = true := fun w h => hts w (aw_GL w h)
  have hbA : ¬ aw_Z N0 b := fun h => by have h9 : N0 ≤ b := h; omega
  have hR1 : room_1.cells = 613841 := rfl
  have hR2 : room_1.slots = 7254581 := rfl
  have hE := hU.1
  have hK := hE.1
  have hN := hE.2.1
  intro d
  induction d with
  | zero =>
    intro t zG zO zX zY zA zB zM zI zL zK zN zF zQ H locs L ls ht0 hP hD hSh hR hS hl
    by_cases h6 : 6 ≤ Ln
    · refine lv_iload hx hb d_La_law_23 (lv_at hl 4 rfl) ?_
      refine lv_aload_n hx hb d_La_law_25 rfl (lv_at hl 0 rfl) ?_
      refine va_slen hx hb hX hbl hbA hS d_La_law_26 ?_
      refine aw_ti (y := nI Ln) rfl ?_
      refine lv_bipush (v := nI 6) hx hb d_La_law_27 (by decide +kernel) ?_
      refine lv_isub hx hb d_La_law_29 ?_
      refine aw_ti (pk_sub (a := Ln) (b := 6) (by omega)) ?_
      refine lv_icmp_gt (tgt := 859) hx hb d_La_law_30 (by decide) (fun _ => ?_) (fun h => absurd (show nI (Ln - 6) < nI (6 * t) from (nI_ltI (by omega) (by omega)).mpr (by omega)) h)
      refine lv_iconst (v := 1) hx hb d_La_law_859 (by decide +kernel) ?_
      refine va_forget (fun q hq => by have h9 := hS.2.2 q hq; rw [← hN0e]; exact h9) ?_
      refine W.widen (k := 613841) (n := 7254581) (by omega) (by omega) ?_
      exact lw_ret hx hb hr hlocks d_La_law_860
    · have ht1 : t = 0 := by omega
      subst ht1
      refine lv_iload hx hb d_La_law_23 (lv_at hl 4 rfl) ?_
      refine lv_aload_n hx hb d_La_law_25 rfl (lv_at hl 0 rfl) ?_
      refine va_slen hx hb hX hbl hbA hS d_La_law_26 ?_
      refine aw_ti (y := nI Ln) rfl ?_
      refine lv_bipush (v := nI 6) hx hb d_La_law_27 (by decide +kernel) ?_
      refine lv_isub hx hb d_La_law_29 ?_
      refine lv_icmp_gt (tgt := 859) hx hb d_La_law_30 (by decide) (fun _ => ?_) (fun h => absurd (show nI Ln - nI 6 < nI (6 * 0) from pk_sneg (by decide) (by omega)) h)
      refine lv_iconst (v := 1) hx hb d_La_law_859 (by decide +kernel) ?_
      refine va_forget (fun q hq => by have h9 := hS.2.2 q hq; rw [← hN0e]; exact h9) ?_
      refine W.widen (k := 613841) (n := 7254581) (by omega) (by omega) ?_
      exact lw_ret hx hb hr hlocks d_La_law_860
  | succ d ih =>
    intro t zG zO zX zY zA zB zM zI zL zK zN zF zQ H locs L ls ht0 hP hD hSh hR hS hl
    refine lv_iload hx hb d_La_law_23 (lv_at hl 4 rfl) ?_
    refine lv_aload_n hx hb d_La_law_25 rfl (lv_at hl 0 rfl) ?_
    refine va_slen hx hb hX hbl hbA hS d_La_law_26 ?_
    refine aw_ti (y := nI Ln) rfl ?_
    refine lv_bipush (v := nI 6) hx hb d_La_law_27 (by decide +kernel) ?_
    refine lv_isub hx hb d_La_law_29 ?_
    refine aw_ti (pk_sub (a := Ln) (b := 6) (by omega)) ?_
    refine lv_icmp_gt (tgt := 859) hx hb d_La_law_30 (by decide) (fun h => absurd h (show ¬ nI (Ln - 6) < nI (6 * t) from fun h9 => absurd ((nI_ltI (by omega) (by omega)).mp h9) (by omega))) (fun _ => ?_)
    refine lv_aload_n hx hb d_La_law_33 rfl (lv_at hl 0 rfl) ?_
    refine lv_iload hx hb d_La_law_34 (lv_at hl 4 rfl) ?_
    refine va_sld hx hb hX hbl hbA hS (i := (nI (6 * t))) (vp_in_nI (by omega) (by omega)) d_La_law_36 ?_
    refine lv_topi (fun x1 _ => ?_)
    refine lv_bipush (v := nI 15) hx hb d_La_law_37 (by decide +kernel) ?_
    refine lv_iand hx hb d_La_law_39 ?_
    obtain ⟨k2, hk2, ek2⟩ := pk_andE x1 (m := nI 15) 4 (by decide +kernel)
    refine aw_ti ek2 ?_
    rcases (by omega : k2 = 0 ∨ k2 = 1 ∨ k2 = 2 ∨ k2 = 3 ∨ k2 = 4 ∨ k2 = 5 ∨ k2 = 6 ∨ k2 = 7 ∨ k2 = 8 ∨ k2 = 9 ∨ k2 = 10 ∨ k2 = 11 ∨ k2 = 12 ∨ k2 = 13 ∨ k2 = 14 ∨ k2 = 15) with hs3 | hs3 | hs3 | hs3 | hs3 | hs3 | hs3 | hs3 | hs3 | hs3 | hs3 | hs3 | hs3 | hs3 | hs3 | hs3
    · refine aw_ti (y := nI 0) (by rw [hs3]) ?_
      refine lv_tableIn (tgt := 108) (off := 68) hx hb d_La_law_40 (by decide +kernel) (by decide +kernel) (by decide +kernel) (by decide) ?_
      obtain ⟨c0, hc0⟩ : ∃ z : Int32, z = xs (6 * t + 1) := ⟨_, rfl⟩
      obtain ⟨k0, hk0⟩ : ∃ z : Int32, z = xs (6 * t + 2) := ⟨_, rfl⟩
      rcases aw_rng 4 (by decide) c0 with hc | ⟨j, hj, rfl⟩
      · refine lv_aload_n hx hb d_La_law_108 rfl (lv_at hl 1 rfl) ?_
        refine lv_aload_n hx hb d_La_law_109 rfl (lv_at hl 0 rfl) ?_
        refine lv_iload hx hb d_La_law_110 (lv_at hl 4 rfl) ?_
        refine lv_iconst (v := nI 1) hx hb d_La_law_112 (by decide +kernel) ?_
        refine lv_iadd hx hb d_La_law_113 ?_
        refine aw_ti (nI_add (6 * t) 1) ?_
        refine va_sld hx hb hX hbl hbA hS (i := (nI ((6 * t) + 1))) (vp_in_nI (by omega) (by omega)) d_La_law_114 ?_
        refine aw_ti (y := c0) (by rw [nI_clamp (by omega)]; exact hc0.symm) ?_
        refine lv_aload_n hx hb d_La_law_115 rfl (lv_at hl 0 rfl) ?_
        refine lv_iload hx hb d_La_law_116 (lv_at hl 4 rfl) ?_
        refine lv_iconst (v := nI 2) hx hb d_La_law_118 (by decide +kernel) ?_
        refine lv_iadd hx hb d_La_law_119 ?_
        refine aw_ti (nI_add (6 * t) 2) ?_
        refine va_sld hx hb hX hbl hbA hS (i := (nI ((6 * t) + 2))) (vp_in_nI (by omega) (by omega)) d_La_law_120 ?_
        refine aw_ti (y := k0) (by rw [nI_clamp (by omega)]; exact hk0.symm) ?_
        refine va_calli (vx_runSW (As := [.ref (aw_r ad 0), .int c0, .int k0]) (rest := []) ⟨hx, hb, hml, hown, hG⟩ (k_La_chooseXcV l hst D g ad N0 zG zO zX zY zA zB zM zI zL zK zN zF zQ c0 k0 hc) (aw_wW 3 hG gw_2_37 gw_2_35 gw_0_0 gw_2_36 rfl rfl hd_La_choose ⟨Nat.le_of_ble_eq_true rfl, Nat.le_of_ble_eq_true rfl⟩) (ag_qS hP hD hSh hU hS) rfl rfl hl.1 rfl (lv_room (Nat.le_of_ble_eq_true rfl)) d_La_law_121 ⟨by omega, by omega⟩) hS (fun _ _ h => h) (fun _ h => h) ?_
        clear hP hD hSh hS
        intro x4 u8 t8 H locs ht _ ex4 hB _ _ hS
        obtain ⟨L, hP, hD, hSh⟩ := hB
        rw [ht] at hP
        clear ht
        subst ex4
        refine lv_istore hx hb d_La_law_124 hl (by decide) rfl (fun ls hl => ?_)
        have hl : lv_has ls 8 [(5, .int (nI 1)), (0, .ref b), (1, .ref (aw_r ad 0)), (2, .ref (aw_m ad 0)), (3, .ref (aw_o ad)), (4, .int (nI (6 * t)))] := hl
        refine lv_aload_n hx hb d_La_law_126 rfl (lv_at hl 3 rfl) ?_
        refine lv_aload_n hx hb d_La_law_127 rfl (lv_at hl 1 rfl) ?_
        refine lv_iload hx hb d_La_law_128 (lv_at hl 5 rfl) ?_
        refine lv_iconst (v := nI 1) hx hb d_La_law_130 (by decide +kernel) ?_
        refine lv_iadd hx hb d_La_law_131 ?_
        refine aw_ti (nI_add (6 * t) 1) ?_
        refine va_sld hx hb hX hbl hbA hS (i := (nI ((6 * t) + 1))) (vp_in_nI (by omega) (by omega)) d_La_law_132 ?_
        refine aw_ti (y := c0) (by rw [nI_clamp (by omega)]; exact hc0.symm) ?_
        refine lv_aload_n hx hb d_La_law_133 rfl (lv_at hl 1 rfl) ?_
        refine lv_iload hx hb d_La_law_134 (lv_at hl 5 rfl) ?_
        refine lv_iconst (v := nI 2) hx hb d_La_law_136 (by decide +kernel) ?_
        refine lv_iadd hx hb d_La_law_137 ?_
        refine aw_ti (nI_add (6 * t) 2) ?_
        refine va_sld hx hb hX hbl hbA hS (i := (nI ((6 * t) + 2))) (vp_in_nI (by omega) (by omega)) d_La_law_138 ?_
        refine aw_ti (y := k0) (by rw [nI_clamp (by omega)]; exact hk0.symm) ?_
        obtain ⟨_, he5⟩ := zr_M0 hSh
        refine va_callv (va_runV (As := [.int c0, .int k0]) (rest := []) ⟨hx, hb, hml, hown, hG⟩ (k_Mo_chooseXcV l D g ad N0 zG zO zX zY zA zB zM zI zL zK zN zF zQ c0 k0 hc) (aw_wV 2 hG gw_10_31 gw_10_28 gw_0_10 gw_10_29 gw_10_30 rfl rfl hd_Mo_choose ⟨Nat.le_of_ble_eq_true rfl, Nat.le_of_ble_eq_true rfl⟩) (ag_qV (va_recv hK hP rfl he5) hP hD hSh hU hS) rfl rfl hl.1 rfl (lv_room (Nat.le_of_ble_eq_true rfl)) d_La_law_139 ⟨by omega, by omega⟩) hS (fun _ _ h => h) (fun _ h => h) ?_
        clear hP hD hSh hS he5
        intro u8 t8 H locs ht _ _ hB _ _ hS
        obtain ⟨L, hP, hD, hSh⟩ := hB
        rw [ht] at hP
        clear ht
        refine lv_goto (tgt := 853) hx hb d_La_law_142 (by decide) ?_
        refine lv_iinc (k := 5) (v := nI (6 * t + 6)) hx hb d_La_law_853 hl rfl (aw_inc (6 * t) 6 6 (by decide +kernel)) (by decide) rfl (fun ls hl => ?_)
        have hl : lv_has ls 8 [(4, .int (nI (6 * t + 6))), (5, .int (nI 1)), (0, .ref b), (1, .ref (aw_r ad 0)), (2, .ref (aw_m ad 0)), (3, .ref (aw_o ad))] := hl
        refine lv_goto (tgt := 23) hx hb d_La_law_856 (by decide) ?_
        have hl := lv_sub hl (l' := [(0, .ref b), (1, .ref (aw_r ad 0)), (2, .ref (aw_m ad 0)), (3, .ref (aw_o ad)), (4, .int (nI (6 * t + 6)))]) [2, 3, 4, 5, 0] rfl
        refine W.widen (k := 85 + (t + 1)) (n := 1246 + 6 * (t + 1)) (by omega) (by omega) ?_
        exact ih (t + 1) zG zO zX zY zA zB zM zI zL zK zN (nI 1) zQ _ _ L ls (by omega) hP hD hSh hR hS (by first | exact hl | simpa [Nat.mul_add] using hl)
      · have hgj := hSh.2.2.2.2.1 j hj
        have hq1 : (zM j).1 = (zG j).1 := by rw [hR.1 j hj]
        have hq2 : (zM j).2 = (zG j).2 := by rw [hR.1 j hj]
        rcases aw_rng 5 (by decide) k0 with hk | ⟨k, hk, rfl⟩
        · refine lv_aload_n hx hb d_La_law_108 rfl (lv_at hl 1 rfl) ?_
          refine lv_aload_n hx hb d_La_law_109 rfl (lv_at hl 0 rfl) ?_
          refine lv_iload hx hb d_La_law_110 (lv_at hl 4 rfl) ?_
          refine lv_iconst (v := nI 1) hx hb d_La_law_112 (by decide +kernel) ?_
          refine lv_iadd hx hb d_La_law_113 ?_
          refine aw_ti (nI_add (6 * t) 1) ?_
          refine va_sld hx hb hX hbl hbA hS (i := (nI ((6 * t) + 1))) (vp_in_nI (by omega) (by omega)) d_La_law_114 ?_
          refine aw_ti (y := nI j) (by rw [nI_clamp (by omega)]; exact hc0.symm) ?_
          refine lv_aload_n hx hb d_La_law_115 rfl (lv_at hl 0 rfl) ?_
          refine lv_iload hx hb d_La_law_116 (lv_at hl 4 rfl) ?_
          refine lv_iconst (v := nI 2) hx hb d_La_law_118 (by decide +kernel) ?_
          refine lv_iadd hx hb d_La_law_119 ?_
          refine aw_ti (nI_add (6 * t) 2) ?_
          refine va_sld hx hb hX hbl hbA hS (i := (nI ((6 * t) + 2))) (vp_in_nI (by omega) (by omega)) d_La_law_120 ?_
          refine aw_ti (y := k0) (by rw [nI_clamp (by omega)]; exact hk0.symm) ?_
          refine va_calli (vx_runSW (As := [.ref (aw_r ad 0), .int (nI j), .int k0]) (rest := []) ⟨hx, hb, hml, hown, hG⟩ (k_La_chooseXaV l hst D g ad N0 zG zO zX zY zA zB zM zI zL zK zN zF zQ j k0 hj hk) (aw_wW 3 hG gw_2_37 gw_2_35 gw_0_0 gw_2_36 rfl rfl hd_La_choose ⟨Nat.le_of_ble_eq_true rfl, Nat.le_of_ble_eq_true rfl⟩) (ag_qS hP hD hSh hU hS) rfl rfl hl.1 rfl (lv_room (Nat.le_of_ble_eq_true rfl)) d_La_law_121 ⟨by omega, by omega⟩) hS (fun _ _ h => h) (fun _ h => h) ?_
          clear hP hD hSh hS
          intro x6 u8 t8 H locs ht _ ex6 hB _ _ hS
          obtain ⟨L, hP, hD, hSh⟩ := hB
          rw [ht] at hP
          clear ht
          subst ex6
          refine lv_istore hx hb d_La_law_124 hl (by decide) rfl (fun ls hl => ?_)
          have hl : lv_has ls 8 [(5, .int (nI 2)), (0, .ref b), (1, .ref (aw_r ad 0)), (2, .ref (aw_m ad 0)), (3, .ref (aw_o ad)), (4, .int (nI (6 * t)))] := hl
          refine lv_aload_n hx hb d_La_law_126 rfl (lv_at hl 3 rfl) ?_
          refine lv_aload_n hx hb d_La_law_127 rfl (lv_at hl 1 rfl) ?_
          refine lv_iload hx hb d_La_law_128 (lv_at hl 5 rfl) ?_
          refine lv_iconst (v := nI 1) hx hb d_La_law_130 (by decide +kernel) ?_
          refine lv_iadd hx hb d_La_law_131 ?_
          refine aw_ti (nI_add (6 * t) 1) ?_
          refine va_sld hx hb hX hbl hbA hS (i := (nI ((6 * t) + 1))) (vp_in_nI (by omega) (by omega)) d_La_law_132 ?_
          refine aw_ti (y := nI j) (by rw [nI_clamp (by omega)]; exact hc0.symm) ?_
          refine lv_aload_n hx hb d_La_law_133 rfl (lv_at hl 1 rfl) ?_
          refine lv_iload hx hb d_La_law_134 (lv_at hl 5 rfl) ?_
          refine lv_iconst (v := nI 2) hx hb d_La_law_136 (by decide +kernel) ?_
          refine lv_iadd hx hb d_La_law_137 ?_
          refine aw_ti (nI_add (6 * t) 2) ?_
          refine va_sld hx hb hX hbl hbA hS (i := (nI ((6 * t) + 2))) (vp_in_nI (by omega) (by omega)) d_La_law_138 ?_
          refine aw_ti (y := k0) (by rw [nI_clamp (by omega)]; exact hk0.symm) ?_
          obtain ⟨_, he7⟩ := zr_M0 hSh
          refine va_callv (va_runV (As := [.int (nI j), .int k0]) (rest := []) ⟨hx, hb, hml, hown, hG⟩ (k_Mo_chooseXaV l D g ad N0 zG zO zX zY zA zB zM zI zL zK zN zF zQ j k0 hj (aw_bnd 4 (by decide) hk)) (aw_wV 2 hG gw_10_31 gw_10_28 gw_0_10 gw_10_29 gw_10_30 rfl rfl hd_Mo_choose ⟨Nat.le_of_ble_eq_true rfl, Nat.le_of_ble_eq_true rfl⟩) (ag_qV (va_recv hK hP rfl he7) hP hD hSh hU hS) rfl rfl hl.1 rfl (lv_room (Nat.le_of_ble_eq_true rfl)) d_La_law_139 ⟨by omega, by omega⟩) hS (fun _ _ h => h) (fun _ h => h) ?_
          clear hP hD hSh hS he7
          intro u8 t8 H locs ht _ _ hB _ _ hS
          obtain ⟨L, hP, hD, hSh⟩ := hB
          rw [ht] at hP
          clear ht
          refine lv_goto (tgt := 853) hx hb d_La_law_142 (by decide) ?_
          refine lv_iinc (k := 5) (v := nI (6 * t + 6)) hx hb d_La_law_853 hl rfl (aw_inc (6 * t) 6 6 (by decide +kernel)) (by decide) rfl (fun ls hl => ?_)
          have hl : lv_has ls 8 [(4, .int (nI (6 * t + 6))), (5, .int (nI 2)), (0, .ref b), (1, .ref (aw_r ad 0)), (2, .ref (aw_m ad 0)), (3, .ref (aw_o ad))] := hl
          refine lv_goto (tgt := 23) hx hb d_La_law_856 (by decide) ?_
          have hl := lv_sub hl (l' := [(0, .ref b), (1, .ref (aw_r ad 0)), (2, .ref (aw_m ad 0)), (3, .ref (aw_o ad)), (4, .int (nI (6 * t + 6)))]) [2, 3, 4, 5, 0] rfl
          refine W.widen (k := 85 + (t + 1)) (n := 1246 + 6 * (t + 1)) (by omega) (by omega) ?_
          exact ih (t + 1) zG zO zX zY zA zB zM zI zL zK zN (nI 2) zQ _ _ L ls (by omega) hP hD hSh hR hS (by first | exact hl | simpa [Nat.mul_add] using hl)
        · by_cases hs : (zG j).1 = 0
          · refine lv_aload_n hx hb d_La_law_108 rfl (lv_at hl 1 rfl) ?_
            refine lv_aload_n hx hb d_La_law_109 rfl (lv_at hl 0 rfl) ?_
            refine lv_iload hx hb d_La_law_110 (lv_at hl 4 rfl) ?_
            refine lv_iconst (v := nI 1) hx hb d_La_law_112 (by decide +kernel) ?_
            refine lv_iadd hx hb d_La_law_113 ?_
            refine aw_ti (nI_add (6 * t) 1) ?_
            refine va_sld hx hb hX hbl hbA hS (i := (nI ((6 * t) + 1))) (vp_in_nI (by omega) (by omega)) d_La_law_114 ?_
            refine aw_ti (y := nI j) (by rw [nI_clamp (by omega)]; exact hc0.symm) ?_
            refine lv_aload_n hx hb d_La_law_115 rfl (lv_at hl 0 rfl) ?_
            refine lv_iload hx hb d_La_law_116 (lv_at hl 4 rfl) ?_
            refine lv_iconst (v := nI 2) hx hb d_La_law_118 (by decide +kernel) ?_
            refine lv_iadd hx hb d_La_law_119 ?_
            refine aw_ti (nI_add (6 * t) 2) ?_
            refine va_sld hx hb hX hbl hbA hS (i := (nI ((6 * t) + 2))) (vp_in_nI (by omega) (by omega)) d_La_law_120 ?_
            refine aw_ti (y := nI k) (by rw [nI_clamp (by omega)]; exact hk0.symm) ?_
            refine va_calli (vx_runSW (As := [.ref (aw_r ad 0), .int (nI j), .int (nI k)]) (rest := []) ⟨hx, hb, hml, hown, hG⟩ (k_La_choose1V l hst D g ad N0 zG zO zX zY zA zB zM zI zL zK zN zF zQ j k hj (by omega) (by omega)) (aw_wW 3 hG gw_2_37 gw_2_35 gw_0_0 gw_2_36 rfl rfl hd_La_choose ⟨Nat.le_of_ble_eq_true rfl, Nat.le_of_ble_eq_true rfl⟩) (ag_qS hP hD hSh hU hS) rfl rfl hl.1 rfl (lv_room (Nat.le_of_ble_eq_true rfl)) d_La_law_121 ⟨by omega, by omega⟩) hS (fun _ _ h => h) (fun _ h => h) ?_
            clear hP hD hSh hS
            intro x8 u8 t8 H locs ht _ ex8 hB _ _ hS
            obtain ⟨L, hP, hD, hSh⟩ := hB
            rw [ht] at hP
            clear ht
            subst ex8
            obtain ⟨zG9, ezG9⟩ : ∃ z : Nat → Nat × Nat, v_La_choose1V_zG zG zO j k = z := ⟨_, rfl⟩
            rw [ezG9] at hSh
            obtain ⟨zO10, ezO10⟩ : ∃ z : Nat → Nat, v_La_choose1V_zO zG zO j k = z := ⟨_, rfl⟩
            rw [ezO10] at hSh
            refine lv_istore hx hb d_La_law_124 hl (by decide) rfl (fun ls hl => ?_)
            have hl : lv_has ls 8 [(5, .int (nI 0)), (0, .ref b), (1, .ref (aw_r ad 0)), (2, .ref (aw_m ad 0)), (3, .ref (aw_o ad)), (4, .int (nI (6 * t)))] := hl
            refine lv_aload_n hx hb d_La_law_126 rfl (lv_at hl 3 rfl) ?_
            refine lv_aload_n hx hb d_La_law_127 rfl (lv_at hl 1 rfl) ?_
            refine lv_iload hx hb d_La_law_128 (lv_at hl 5 rfl) ?_
            refine lv_iconst (v := nI 1) hx hb d_La_law_130 (by decide +kernel) ?_
            refine lv_iadd hx hb d_La_law_131 ?_
            refine aw_ti (nI_add (6 * t) 1) ?_
            refine va_sld hx hb hX hbl hbA hS (i := (nI ((6 * t) + 1))) (vp_in_nI (by omega) (by omega)) d_La_law_132 ?_
            refine aw_ti (y := nI j) (by rw [nI_clamp (by omega)]; exact hc0.symm) ?_
            refine lv_aload_n hx hb d_La_law_133 rfl (lv_at hl 1 rfl) ?_
            refine lv_iload hx hb d_La_law_134 (lv_at hl 5 rfl) ?_
            refine lv_iconst (v := nI 2) hx hb d_La_law_136 (by decide +kernel) ?_
            refine lv_iadd hx hb d_La_law_137 ?_
            refine aw_ti (nI_add (6 * t) 2) ?_
            refine va_sld hx hb hX hbl hbA hS (i := (nI ((6 * t) + 2))) (vp_in_nI (by omega) (by omega)) d_La_law_138 ?_
            refine aw_ti (y := nI k) (by rw [nI_clamp (by omega)]; exact hk0.symm) ?_
            obtain ⟨_, he11⟩ := zr_M0 hSh
            refine va_callv (va_runV (As := [.int (nI j), .int (nI k)]) (rest := []) ⟨hx, hb, hml, hown, hG⟩ (k_Mo_choose1V l D g ad N0 zG9 zO10 zX zY zA zB zM zI zL zK zN zF zQ j k hj (by omega) (by omega)) (aw_wV 2 hG gw_10_31 gw_10_28 gw_0_10 gw_10_29 gw_10_30 rfl rfl hd_Mo_choose ⟨Nat.le_of_ble_eq_true rfl, Nat.le_of_ble_eq_true rfl⟩) (ag_qV (va_recv hK hP rfl he11) hP hD hSh hU hS) rfl rfl hl.1 rfl (lv_room (Nat.le_of_ble_eq_true rfl)) d_La_law_139 ⟨by omega, by omega⟩) hS (fun _ _ h => h) (fun _ h => h) ?_
            clear hP hD hSh hS he11
            intro u8 t8 H locs ht _ _ hB _ _ hS
            obtain ⟨L, hP, hD, hSh⟩ := hB
            rw [ht] at hP
            clear ht
            obtain ⟨zM12, ezM12⟩ : ∃ z : Nat → Nat × Nat, v_Mo_choose1V_zM zM zI j k = z := ⟨_, rfl⟩
            rw [ezM12] at hSh
            obtain ⟨zI13, ezI13⟩ : ∃ z : Nat → Nat → Int32, v_Mo_choose1V_zI zM zI j k = z := ⟨_, rfl⟩
            rw [ezI13] at hSh
            refine lv_goto (tgt := 853) hx hb d_La_law_142 (by decide) ?_
            refine lv_iinc (k := 5) (v := nI (6 * t + 6)) hx hb d_La_law_853 hl rfl (aw_inc (6 * t) 6 6 (by decide +kernel)) (by decide) rfl (fun ls hl => ?_)
            have hl : lv_has ls 8 [(4, .int (nI (6 * t + 6))), (5, .int (nI 0)), (0, .ref b), (1, .ref (aw_r ad 0)), (2, .ref (aw_m ad 0)), (3, .ref (aw_o ad))] := hl
            refine lv_goto (tgt := 23) hx hb d_La_law_856 (by decide) ?_
            have hl := lv_sub hl (l' := [(0, .ref b), (1, .ref (aw_r ad 0)), (2, .ref (aw_m ad 0)), (3, .ref (aw_o ad)), (4, .int (nI (6 * t + 6)))]) [2, 3, 4, 5, 0] rfl
            refine W.widen (k := 85 + (t + 1)) (n := 1246 + 6 * (t + 1)) (by omega) (by omega) ?_
            have hR : az_R zG9 zO10 zX zY zA zB zM12 zI13 zL := by
              subst ezI13 ezM12 ezO10 ezG9
              exact r_choose1 hR hj hk hs
            exact ih (t + 1) zG9 zO10 zX zY zA zB zM12 zI13 zL zK zN (nI 0) zQ _ _ L ls (by omega) hP hD hSh hR hS (by first | exact hl | simpa [Nat.mul_add] using hl)
          · refine lv_aload_n hx hb d_La_law_108 rfl (lv_at hl 1 rfl) ?_
            refine lv_aload_n hx hb d_La_law_109 rfl (lv_at hl 0 rfl) ?_
            refine lv_iload hx hb d_La_law_110 (lv_at hl 4 rfl) ?_
            refine lv_iconst (v := nI 1) hx hb d_La_law_112 (by decide +kernel) ?_
            refine lv_iadd hx hb d_La_law_113 ?_
            refine aw_ti (nI_add (6 * t) 1) ?_
            refine va_sld hx hb hX hbl hbA hS (i := (nI ((6 * t) + 1))) (vp_in_nI (by omega) (by omega)) d_La_law_114 ?_
            refine aw_ti (y := nI j) (by rw [nI_clamp (by omega)]; exact hc0.symm) ?_
            refine lv_aload_n hx hb d_La_law_115 rfl (lv_at hl 0 rfl) ?_
            refine lv_iload hx hb d_La_law_116 (lv_at hl 4 rfl) ?_
            refine lv_iconst (v := nI 2) hx hb d_La_law_118 (by decide +kernel) ?_
            refine lv_iadd hx hb d_La_law_119 ?_
            refine aw_ti (nI_add (6 * t) 2) ?_
            refine va_sld hx hb hX hbl hbA hS (i := (nI ((6 * t) + 2))) (vp_in_nI (by omega) (by omega)) d_La_law_120 ?_
            refine aw_ti (y := nI k) (by rw [nI_clamp (by omega)]; exact hk0.symm) ?_
            refine va_calli (vx_runSW (As := [.ref (aw_r ad 0), .int (nI j), .int (nI k)]) (rest := []) ⟨hx, hb, hml, hown, hG⟩ (k_La_chooseXsV l hst D g ad N0 zG zO zX zY zA zB zM zI zL zK zN zF zQ j k hj (by omega) (by omega)) (aw_wW 3 hG gw_2_37 gw_2_35 gw_0_0 gw_2_36 rfl rfl hd_La_choose ⟨Nat.le_of_ble_eq_true rfl, Nat.le_of_ble_eq_true rfl⟩) (ag_qS hP hD hSh hU hS) rfl rfl hl.1 rfl (lv_room (Nat.le_of_ble_eq_true rfl)) d_La_law_121 ⟨by omega, by omega⟩) hS (fun _ _ h => h) (fun _ h => h) ?_
            clear hP hD hSh hS
            intro x14 u8 t8 H locs ht _ ex14 hB _ _ hS
            obtain ⟨L, hP, hD, hSh⟩ := hB
            rw [ht] at hP
            clear ht
            subst ex14
            refine lv_istore hx hb d_La_law_124 hl (by decide) rfl (fun ls hl => ?_)
            have hl : lv_has ls 8 [(5, .int (nI 3)), (0, .ref b), (1, .ref (aw_r ad 0)), (2, .ref (aw_m ad 0)), (3, .ref (aw_o ad)), (4, .int (nI (6 * t)))] := hl
            refine lv_aload_n hx hb d_La_law_126 rfl (lv_at hl 3 rfl) ?_
            refine lv_aload_n hx hb d_La_law_127 rfl (lv_at hl 1 rfl) ?_
            refine lv_iload hx hb d_La_law_128 (lv_at hl 5 rfl) ?_
            refine lv_iconst (v := nI 1) hx hb d_La_law_130 (by decide +kernel) ?_
            refine lv_iadd hx hb d_La_law_131 ?_
            refine aw_ti (nI_add (6 * t) 1) ?_
            refine va_sld hx hb hX hbl hbA hS (i := (nI ((6 * t) + 1))) (vp_in_nI (by omega) (by omega)) d_La_law_132 ?_
            refine aw_ti (y := nI j) (by rw [nI_clamp (by omega)]; exact hc0.symm) ?_
            refine lv_aload_n hx hb d_La_law_133 rfl (lv_at hl 1 rfl) ?_
            refine lv_iload hx hb d_La_law_134 (lv_at hl 5 rfl) ?_
            refine lv_iconst (v := nI 2) hx hb d_La_law_136 (by decide +kernel) ?_
            refine lv_iadd hx hb d_La_law_137 ?_
            refine aw_ti (nI_add (6 * t) 2) ?_
            refine va_sld hx hb hX hbl hbA hS (i := (nI ((6 * t) + 2))) (vp_in_nI (by omega) (by omega)) d_La_law_138 ?_
            refine aw_ti (y := nI k) (by rw [nI_clamp (by omega)]; exact hk0.symm) ?_
            obtain ⟨_, he15⟩ := zr_M0 hSh
            refine va_callv (va_runV (As := [.int (nI j), .int (nI k)]) (rest := []) ⟨hx, hb, hml, hown, hG⟩ (k_Mo_chooseXsV l D g ad N0 zG zO zX zY zA zB zM zI zL zK zN zF zQ j k hj (by omega) (by omega)) (aw_wV 2 hG gw_10_31 gw_10_28 gw_0_10 gw_10_29 gw_10_30 rfl rfl hd_Mo_choose ⟨Nat.le_of_ble_eq_true rfl, Nat.le_of_ble_eq_true rfl⟩) (ag_qV (va_recv hK hP rfl he15) hP hD hSh hU hS) rfl rfl hl.1 rfl (lv_room (Nat.le_of_ble_eq_true rfl)) d_La_law_139 ⟨by omega, by omega⟩) hS (fun _ _ h => h) (fun _ h => h) ?_
            clear hP hD hSh hS he15
            intro u8 t8 H locs ht _ _ hB _ _ hS
            obtain ⟨L, hP, hD, hSh⟩ := hB
            rw [ht] at hP
            clear ht
            refine lv_goto (tgt := 853) hx hb d_La_law_142 (by decide) ?_
            refine lv_iinc (k := 5) (v := nI (6 * t + 6)) hx hb d_La_law_853 hl rfl (aw_inc (6 * t) 6 6 (by decide +kernel)) (by decide) rfl (fun ls hl => ?_)
            have hl : lv_has ls 8 [(4, .int (nI (6 * t + 6))), (5, .int (nI 3)), (0, .ref b), (1, .ref (aw_r ad 0)), (2, .ref (aw_m ad 0)), (3, .ref (aw_o ad))] := hl
            refine lv_goto (tgt := 23) hx hb d_La_law_856 (by decide) ?_
            have hl := lv_sub hl (l' := [(0, .ref b), (1, .ref (aw_r ad 0)), (2, .ref (aw_m ad 0)), (3, .ref (aw_o ad)), (4, .int (nI (6 * t + 6)))]) [2, 3, 4, 5, 0] rfl
            refine W.widen (k := 85 + (t + 1)) (n := 1246 + 6 * (t + 1)) (by omega) (by omega) ?_
            exact ih (t + 1) zG zO zX zY zA zB zM zI zL zK zN (nI 3) zQ _ _ L ls (by omega) hP hD hSh hR hS (by first | exact hl | simpa [Nat.mul_add] using hl)
    · refine aw_ti (y := nI 1) (by rw [hs3]) ?_
      refine lv_tableIn (tgt := 145) (off := 105) hx hb d_La_law_40 (by decide +kernel) (by decide +kernel) (by decide +kernel) (by decide) ?_
      obtain ⟨c0, hc0⟩ : ∃ z : Int32, z = xs (6 * t + 1) := ⟨_, rfl⟩
      obtain ⟨s2, hs2⟩ : ∃ z : Int32, z = xs (6 * t + 2) := ⟨_, rfl⟩
      obtain ⟨s3, hs3⟩ : ∃ z : Int32, z = xs (6 * t + 3) := ⟨_, rfl⟩
      obtain ⟨s4, hs4⟩ : ∃ z : Int32, z = xs (6 * t + 4) := ⟨_, rfl⟩
      obtain ⟨s5, hs5⟩ : ∃ z : Int32, z = xs (6 * t + 5) := ⟨_, rfl⟩
      rcases aw_rng 4 (by decide) c0 with hc | ⟨j, hj, rfl⟩
      · refine lv_aload_n hx hb d_La_law_145 rfl (lv_at hl 1 rfl) ?_
        refine lv_aload_n hx hb d_La_law_146 rfl (lv_at hl 0 rfl) ?_
        refine lv_iload hx hb d_La_law_147 (lv_at hl 4 rfl) ?_
        refine lv_iconst (v := nI 1) hx hb d_La_law_149 (by decide +kernel) ?_
        refine lv_iadd hx hb d_La_law_150 ?_
        refine aw_ti (nI_add (6 * t) 1) ?_
        refine va_sld hx hb hX hbl hbA hS (i := (nI ((6 * t) + 1))) (vp_in_nI (by omega) (by omega)) d_La_law_151 ?_
        refine aw_ti (y := c0) (by rw [nI_clamp (by omega)]; exact hc0.symm) ?_
        refine lv_aload_n hx hb d_La_law_152 rfl (lv_at hl 0 rfl) ?_
        refine lv_iload hx hb d_La_law_153 (lv_at hl 4 rfl) ?_
        refine lv_iconst (v := nI 2) hx hb d_La_law_155 (by decide +kernel) ?_
        refine lv_iadd hx hb d_La_law_156 ?_
        refine aw_ti (nI_add (6 * t) 2) ?_
        refine va_sld hx hb hX hbl hbA hS (i := (nI ((6 * t) + 2))) (vp_in_nI (by omega) (by omega)) d_La_law_157 ?_
        refine aw_ti (y := s2) (by rw [nI_clamp (by omega)]; exact hs2.symm) ?_
        refine lv_i2l hx hb d_La_law_158 rfl ?_
        refine ag_topl (fun y16 ey16 => ?_)
        refine lv_bipush (v := nI 32) hx hb d_La_law_159 (by decide +kernel) ?_
        refine lv_lshl hx hb d_La_law_161 rfl ?_
        refine ag_topl (fun y17 ey17 => ?_)
        refine lv_aload_n hx hb d_La_law_162 rfl (lv_at hl 0 rfl) ?_
        refine lv_iload hx hb d_La_law_163 (lv_at hl 4 rfl) ?_
        refine lv_iconst (v := nI 3) hx hb d_La_law_165 (by decide +kernel) ?_
        refine lv_iadd hx hb d_La_law_166 ?_
        refine aw_ti (nI_add (6 * t) 3) ?_
        refine va_sld hx hb hX hbl hbA hS (i := (nI ((6 * t) + 3))) (vp_in_nI (by omega) (by omega)) d_La_law_167 ?_
        refine aw_ti (y := s3) (by rw [nI_clamp (by omega)]; exact hs3.symm) ?_
        refine lv_i2l hx hb d_La_law_168 rfl ?_
        refine ag_topl (fun y18 ey18 => ?_)
        refine lv_ldc2 (v := 4294967295) hx hb hown (hG _ gw_13_3) d_La_law_169 ?_
        refine lv_land hx hb d_La_law_172 ?_
        refine ag_topl (fun y19 ey19 => ?_)
        refine lv_lor hx hb d_La_law_173 ?_
        refine ag_topl (fun y20 ey20 => ?_)
        refine lv_aload_n hx hb d_La_law_174 rfl (lv_at hl 0 rfl) ?_
        refine lv_iload hx hb d_La_law_175 (lv_at hl 4 rfl) ?_
        refine lv_iconst (v := nI 4) hx hb d_La_law_177 (by decide +kernel) ?_
        refine lv_iadd hx hb d_La_law_178 ?_
        refine aw_ti (nI_add (6 * t) 4) ?_
        refine va_sld hx hb hX hbl hbA hS (i := (nI ((6 * t) + 4))) (vp_in_nI (by omega) (by omega)) d_La_law_179 ?_
        refine aw_ti (y := s4) (by rw [nI_clamp (by omega)]; exact hs4.symm) ?_
        refine lv_i2l hx hb d_La_law_180 rfl ?_
        refine ag_topl (fun y21 ey21 => ?_)
        refine lv_bipush (v := nI 32) hx hb d_La_law_181 (by decide +kernel) ?_
        refine lv_lshl hx hb d_La_law_183 rfl ?_
        refine ag_topl (fun y22 ey22 => ?_)
        refine lv_aload_n hx hb d_La_law_184 rfl (lv_at hl 0 rfl) ?_
        refine lv_iload hx hb d_La_law_185 (lv_at hl 4 rfl) ?_
        refine lv_iconst (v := nI 5) hx hb d_La_law_187 (by decide +kernel) ?_
        refine lv_iadd hx hb d_La_law_188 ?_
        refine aw_ti (nI_add (6 * t) 5) ?_
        refine va_sld hx hb hX hbl hbA hS (i := (nI ((6 * t) + 5))) (vp_in_nI (by omega) (by omega)) d_La_law_189 ?_
        refine aw_ti (y := s5) (by rw [nI_clamp (by omega)]; exact hs5.symm) ?_
        refine lv_i2l hx hb d_La_law_190 rfl ?_
        refine ag_topl (fun y23 ey23 => ?_)
        refine lv_ldc2 (v := 4294967295) hx hb hown (hG _ gw_13_3) d_La_law_191 ?_
        refine lv_land hx hb d_La_law_194 ?_
        refine ag_topl (fun y24 ey24 => ?_)
        refine lv_lor hx hb d_La_law_195 ?_
        refine ag_topl (fun y25 ey25 => ?_)
        refine va_calli (vx_runSW (As := [.ref (aw_r ad 0), .int c0, .long y20, .long y25]) (rest := []) ⟨hx, hb, hml, hown, hG⟩ (k_La_keyXcV l hst D g ad N0 zG zO zX zY zA zB zM zI zL zK zN zF zQ c0 y20 y25 hc) (aw_wW 4 hG gw_4_19 gw_4_17 gw_0_0 gw_4_18 rfl rfl hd_La_key ⟨Nat.le_of_ble_eq_true rfl, Nat.le_of_ble_eq_true rfl⟩) (ag_qS hP hD hSh hU hS) rfl rfl hl.1 rfl (lv_room (Nat.le_of_ble_eq_true rfl)) d_La_law_196 ⟨by omega, by omega⟩) hS (fun _ _ h => h) (fun _ h => h) ?_
        clear hP hD hSh hS
        intro x26 u8 t8 H locs ht _ ex26 hB _ _ hS
        obtain ⟨L, hP, hD, hSh⟩ := hB
        rw [ht] at hP
        clear ht
        subst ex26
        refine lv_istore hx hb d_La_law_199 hl (by decide) rfl (fun ls hl => ?_)
        have hl : lv_has ls 8 [(5, .int (nI 1)), (0, .ref b), (1, .ref (aw_r ad 0)), (2, .ref (aw_m ad 0)), (3, .ref (aw_o ad)), (4, .int (nI (6 * t)))] := hl
        refine lv_aload_n hx hb d_La_law_201 rfl (lv_at hl 3 rfl) ?_
        refine lv_aload_n hx hb d_La_law_202 rfl (lv_at hl 1 rfl) ?_
        refine lv_iload hx hb d_La_law_203 (lv_at hl 5 rfl) ?_
        refine lv_iconst (v := nI 1) hx hb d_La_law_205 (by decide +kernel) ?_
        refine lv_iadd hx hb d_La_law_206 ?_
        refine aw_ti (nI_add (6 * t) 1) ?_
        refine va_sld hx hb hX hbl hbA hS (i := (nI ((6 * t) + 1))) (vp_in_nI (by omega) (by omega)) d_La_law_207 ?_
        refine aw_ti (y := c0) (by rw [nI_clamp (by omega)]; exact hc0.symm) ?_
        refine lv_aload_n hx hb d_La_law_208 rfl (lv_at hl 1 rfl) ?_
        refine lv_iload hx hb d_La_law_209 (lv_at hl 5 rfl) ?_
        refine lv_iconst (v := nI 2) hx hb d_La_law_211 (by decide +kernel) ?_
        refine lv_iadd hx hb d_La_law_212 ?_
        refine aw_ti (nI_add (6 * t) 2) ?_
        refine va_sld hx hb hX hbl hbA hS (i := (nI ((6 * t) + 2))) (vp_in_nI (by omega) (by omega)) d_La_law_213 ?_
        refine aw_ti (y := s2) (by rw [nI_clamp (by omega)]; exact hs2.symm) ?_
        refine lv_i2l hx hb d_La_law_214 rfl ?_
        refine ag_topl (fun y27 ey27 => ?_)
        refine lv_bipush (v := nI 32) hx hb d_La_law_215 (by decide +kernel) ?_
        refine lv_lshl hx hb d_La_law_217 rfl ?_
        refine ag_topl (fun y28 ey28 => ?_)
        refine lv_aload_n hx hb d_La_law_218 rfl (lv_at hl 1 rfl) ?_
        refine lv_iload hx hb d_La_law_219 (lv_at hl 5 rfl) ?_
        refine lv_iconst (v := nI 3) hx hb d_La_law_221 (by decide +kernel) ?_
        refine lv_iadd hx hb d_La_law_222 ?_
        refine aw_ti (nI_add (6 * t) 3) ?_
        refine va_sld hx hb hX hbl hbA hS (i := (nI ((6 * t) + 3))) (vp_in_nI (by omega) (by omega)) d_La_law_223 ?_
        refine aw_ti (y := s3) (by rw [nI_clamp (by omega)]; exact hs3.symm) ?_
        refine lv_i2l hx hb d_La_law_224 rfl ?_
        refine ag_topl (fun y29 ey29 => ?_)
        refine lv_ldc2 (v := 4294967295) hx hb hown (hG _ gw_13_3) d_La_law_225 ?_
        refine lv_land hx hb d_La_law_228 ?_
        refine ag_topl (fun y30 ey30 => ?_)
        refine lv_lor hx hb d_La_law_229 ?_
        refine ag_topl (fun y31 ey31 => ?_)
        refine lv_aload_n hx hb d_La_law_230 rfl (lv_at hl 1 rfl) ?_
        refine lv_iload hx hb d_La_law_231 (lv_at hl 5 rfl) ?_
        refine lv_iconst (v := nI 4) hx hb d_La_law_233 (by decide +kernel) ?_
        refine lv_iadd hx hb d_La_law_234 ?_
        refine aw_ti (nI_add (6 * t) 4) ?_
        refine va_sld hx hb hX hbl hbA hS (i := (nI ((6 * t) + 4))) (vp_in_nI (by omega) (by omega)) d_La_law_235 ?_
        refine aw_ti (y := s4) (by rw [nI_clamp (by omega)]; exact hs4.symm) ?_
        refine lv_i2l hx hb d_La_law_236 rfl ?_
        refine ag_topl (fun y32 ey32 => ?_)
        refine lv_bipush (v := nI 32) hx hb d_La_law_237 (by decide +kernel) ?_
        refine lv_lshl hx hb d_La_law_239 rfl ?_
        refine ag_topl (fun y33 ey33 => ?_)
        refine lv_aload_n hx hb d_La_law_240 rfl (lv_at hl 1 rfl) ?_
        refine lv_iload hx hb d_La_law_241 (lv_at hl 5 rfl) ?_
        refine lv_iconst (v := nI 5) hx hb d_La_law_243 (by decide +kernel) ?_
        refine lv_iadd hx hb d_La_law_244 ?_
        refine aw_ti (nI_add (6 * t) 5) ?_
        refine va_sld hx hb hX hbl hbA hS (i := (nI ((6 * t) + 5))) (vp_in_nI (by omega) (by omega)) d_La_law_245 ?_
        refine aw_ti (y := s5) (by rw [nI_clamp (by omega)]; exact hs5.symm) ?_
        refine lv_i2l hx hb d_La_law_246 rfl ?_
        refine ag_topl (fun y34 ey34 => ?_)
        refine lv_ldc2 (v := 4294967295) hx hb hown (hG _ gw_13_3) d_La_law_247 ?_
        refine lv_land hx hb d_La_law_250 ?_
        refine ag_topl (fun y35 ey35 => ?_)
        refine lv_lor hx hb d_La_law_251 ?_
        refine ag_topl (fun y36 ey36 => ?_)
        obtain ⟨_, he37⟩ := zr_M0 hSh
        refine va_callv (va_runV (As := [.int c0, .long y31, .long y36]) (rest := []) ⟨hx, hb, hml, hown, hG⟩ (k_Mo_keyXcV l D g ad N0 zG zO zX zY zA zB zM zI zL zK zN zF zQ c0 y31 y36 hc) (aw_wV 3 hG gw_10_41 gw_10_38 gw_0_10 gw_10_39 gw_10_40 rfl rfl hd_Mo_key ⟨Nat.le_of_ble_eq_true rfl, Nat.le_of_ble_eq_true rfl⟩) (ag_qV (va_recv hK hP rfl he37) hP hD hSh hU hS) rfl rfl hl.1 rfl (lv_room (Nat.le_of_ble_eq_true rfl)) d_La_law_252 ⟨by omega, by omega⟩) hS (fun _ _ h => h) (fun _ h => h) ?_
        clear hP hD hSh hS he37
        intro u8 t8 H locs ht _ _ hB _ _ hS
        obtain ⟨L, hP, hD, hSh⟩ := hB
        rw [ht] at hP
        clear ht
        refine lv_goto (tgt := 853) hx hb d_La_law_255 (by decide) ?_
        refine lv_iinc (k := 5) (v := nI (6 * t + 6)) hx hb d_La_law_853 hl rfl (aw_inc (6 * t) 6 6 (by decide +kernel)) (by decide) rfl (fun ls hl => ?_)
        have hl : lv_has ls 8 [(4, .int (nI (6 * t + 6))), (5, .int (nI 1)), (0, .ref b), (1, .ref (aw_r ad 0)), (2, .ref (aw_m ad 0)), (3, .ref (aw_o ad))] := hl
        refine lv_goto (tgt := 23) hx hb d_La_law_856 (by decide) ?_
        have hl := lv_sub hl (l' := [(0, .ref b), (1, .ref (aw_r ad 0)), (2, .ref (aw_m ad 0)), (3, .ref (aw_o ad)), (4, .int (nI (6 * t + 6)))]) [2, 3, 4, 5, 0] rfl
        refine W.widen (k := 85 + (t + 1)) (n := 1246 + 6 * (t + 1)) (by omega) (by omega) ?_
        exact ih (t + 1) zG zO zX zY zA zB zM zI zL zK zN (nI 1) zQ _ _ L ls (by omega) hP hD hSh hR hS (by first | exact hl | simpa [Nat.mul_add] using hl)
      · have hgj := hSh.2.2.2.2.1 j hj
        have hq1 : (zM j).1 = (zG j).1 := by rw [hR.1 j hj]
        have hq2 : (zM j).2 = (zG j).2 := by rw [hR.1 j hj]
        by_cases hs : (zG j).1 = 0
        · refine lv_aload_n hx hb d_La_law_145 rfl (lv_at hl 1 rfl) ?_
          refine lv_aload_n hx hb d_La_law_146 rfl (lv_at hl 0 rfl) ?_
          refine lv_iload hx hb d_La_law_147 (lv_at hl 4 rfl) ?_
          refine lv_iconst (v := nI 1) hx hb d_La_law_149 (by decide +kernel) ?_
          refine lv_iadd hx hb d_La_law_150 ?_
          refine aw_ti (nI_add (6 * t) 1) ?_
          refine va_sld hx hb hX hbl hbA hS (i := (nI ((6 * t) + 1))) (vp_in_nI (by omega) (by omega)) d_La_law_151 ?_
          refine aw_ti (y := nI j) (by rw [nI_clamp (by omega)]; exact hc0.symm) ?_
          refine lv_aload_n hx hb d_La_law_152 rfl (lv_at hl 0 rfl) ?_
          refine lv_iload hx hb d_La_law_153 (lv_at hl 4 rfl) ?_
          refine lv_iconst (v := nI 2) hx hb d_La_law_155 (by decide +kernel) ?_
          refine lv_iadd hx hb d_La_law_156 ?_
          refine aw_ti (nI_add (6 * t) 2) ?_
          refine va_sld hx hb hX hbl hbA hS (i := (nI ((6 * t) + 2))) (vp_in_nI (by omega) (by omega)) d_La_law_157 ?_
          refine aw_ti (y := s2) (by rw [nI_clamp (by omega)]; exact hs2.symm) ?_
          refine lv_i2l hx hb d_La_law_158 rfl ?_
          refine ag_topl (fun y38 ey38 => ?_)
          refine lv_bipush (v := nI 32) hx hb d_La_law_159 (by decide +kernel) ?_
          refine lv_lshl hx hb d_La_law_161 rfl ?_
          refine ag_topl (fun y39 ey39 => ?_)
          refine lv_aload_n hx hb d_La_law_162 rfl (lv_at hl 0 rfl) ?_
          refine lv_iload hx hb d_La_law_163 (lv_at hl 4 rfl) ?_
          refine lv_iconst (v := nI 3) hx hb d_La_law_165 (by decide +kernel) ?_
          refine lv_iadd hx hb d_La_law_166 ?_
          refine aw_ti (nI_add (6 * t) 3) ?_
          refine va_sld hx hb hX hbl hbA hS (i := (nI ((6 * t) + 3))) (vp_in_nI (by omega) (by omega)) d_La_law_167 ?_
          refine aw_ti (y := s3) (by rw [nI_clamp (by omega)]; exact hs3.symm) ?_
          refine lv_i2l hx hb d_La_law_168 rfl ?_
          refine ag_topl (fun y40 ey40 => ?_)
          refine lv_ldc2 (v := 4294967295) hx hb hown (hG _ gw_13_3) d_La_law_169 ?_
          refine lv_land hx hb d_La_law_172 ?_
          refine ag_topl (fun y41 ey41 => ?_)
          refine lv_lor hx hb d_La_law_173 ?_
          refine ag_topl (fun y42 ey42 => ?_)
          refine lv_aload_n hx hb d_La_law_174 rfl (lv_at hl 0 rfl) ?_
          refine lv_iload hx hb d_La_law_175 (lv_at hl 4 rfl) ?_
          refine lv_iconst (v := nI 4) hx hb d_La_law_177 (by decide +kernel) ?_
          refine lv_iadd hx hb d_La_law_178 ?_
          refine aw_ti (nI_add (6 * t) 4) ?_
          refine va_sld hx hb hX hbl hbA hS (i := (nI ((6 * t) + 4))) (vp_in_nI (by omega) (by omega)) d_La_law_179 ?_
          refine aw_ti (y := s4) (by rw [nI_clamp (by omega)]; exact hs4.symm) ?_
          refine lv_i2l hx hb d_La_law_180 rfl ?_
          refine ag_topl (fun y43 ey43 => ?_)
          refine lv_bipush (v := nI 32) hx hb d_La_law_181 (by decide +kernel) ?_
          refine lv_lshl hx hb d_La_law_183 rfl ?_
          refine ag_topl (fun y44 ey44 => ?_)
          refine lv_aload_n hx hb d_La_law_184 rfl (lv_at hl 0 rfl) ?_
          refine lv_iload hx hb d_La_law_185 (lv_at hl 4 rfl) ?_
          refine lv_iconst (v := nI 5) hx hb d_La_law_187 (by decide +kernel) ?_
          refine lv_iadd hx hb d_La_law_188 ?_
          refine aw_ti (nI_add (6 * t) 5) ?_
          refine va_sld hx hb hX hbl hbA hS (i := (nI ((6 * t) + 5))) (vp_in_nI (by omega) (by omega)) d_La_law_189 ?_
          refine aw_ti (y := s5) (by rw [nI_clamp (by omega)]; exact hs5.symm) ?_
          refine lv_i2l hx hb d_La_law_190 rfl ?_
          refine ag_topl (fun y45 ey45 => ?_)
          refine lv_ldc2 (v := 4294967295) hx hb hown (hG _ gw_13_3) d_La_law_191 ?_
          refine lv_land hx hb d_La_law_194 ?_
          refine ag_topl (fun y46 ey46 => ?_)
          refine lv_lor hx hb d_La_law_195 ?_
          refine ag_topl (fun y47 ey47 => ?_)
          refine va_calli (vx_runSW (As := [.ref (aw_r ad 0), .int (nI j), .long y42, .long y47]) (rest := []) ⟨hx, hb, hml, hown, hG⟩ (k_La_keyXsV l hst D g ad N0 zG zO zX zY zA zB zM zI zL zK zN zF zQ j y42 y47 hj (by omega)) (aw_wW 4 hG gw_4_19 gw_4_17 gw_0_0 gw_4_18 rfl rfl hd_La_key ⟨Nat.le_of_ble_eq_true rfl, Nat.le_of_ble_eq_true rfl⟩) (ag_qS hP hD hSh hU hS) rfl rfl hl.1 rfl (lv_room (Nat.le_of_ble_eq_true rfl)) d_La_law_196 ⟨by omega, by omega⟩) hS (fun _ _ h => h) (fun _ h => h) ?_
          clear hP hD hSh hS
          intro x48 u8 t8 H locs ht _ ex48 hB _ _ hS
          obtain ⟨L, hP, hD, hSh⟩ := hB
          rw [ht] at hP
          clear ht
          subst ex48
          refine lv_istore hx hb d_La_law_199 hl (by decide) rfl (fun ls hl => ?_)
          have hl : lv_has ls 8 [(5, .int (nI 2)), (0, .ref b), (1, .ref (aw_r ad 0)), (2, .ref (aw_m ad 0)), (3, .ref (aw_o ad)), (4, .int (nI (6 * t)))] := hl
          refine lv_aload_n hx hb d_La_law_201 rfl (lv_at hl 3 rfl) ?_
          refine lv_aload_n hx hb d_La_law_202 rfl (lv_at hl 1 rfl) ?_
          refine lv_iload hx hb d_La_law_203 (lv_at hl 5 rfl) ?_
          refine lv_iconst (v := nI 1) hx hb d_La_law_205 (by decide +kernel) ?_
          refine lv_iadd hx hb d_La_law_206 ?_
          refine aw_ti (nI_add (6 * t) 1) ?_
          refine va_sld hx hb hX hbl hbA hS (i := (nI ((6 * t) + 1))) (vp_in_nI (by omega) (by omega)) d_La_law_207 ?_
          refine aw_ti (y := nI j) (by rw [nI_clamp (by omega)]; exact hc0.symm) ?_
          refine lv_aload_n hx hb d_La_law_208 rfl (lv_at hl 1 rfl) ?_
          refine lv_iload hx hb d_La_law_209 (lv_at hl 5 rfl) ?_
          refine lv_iconst (v := nI 2) hx hb d_La_law_211 (by decide +kernel) ?_
          refine lv_iadd hx hb d_La_law_212 ?_
          refine aw_ti (nI_add (6 * t) 2) ?_
          refine va_sld hx hb hX hbl hbA hS (i := (nI ((6 * t) + 2))) (vp_in_nI (by omega) (by omega)) d_La_law_213 ?_
          refine aw_ti (y := s2) (by rw [nI_clamp (by omega)]; exact hs2.symm) ?_
          refine lv_i2l hx hb d_La_law_214 rfl ?_
          refine ag_topl (fun y49 ey49 => ?_)
          refine lv_bipush (v := nI 32) hx hb d_La_law_215 (by decide +kernel) ?_
          refine lv_lshl hx hb d_La_law_217 rfl ?_
          refine ag_topl (fun y50 ey50 => ?_)
          refine lv_aload_n hx hb d_La_law_218 rfl (lv_at hl 1 rfl) ?_
          refine lv_iload hx hb d_La_law_219 (lv_at hl 5 rfl) ?_
          refine lv_iconst (v := nI 3) hx hb d_La_law_221 (by decide +kernel) ?_
          refine lv_iadd hx hb d_La_law_222 ?_
          refine aw_ti (nI_add (6 * t) 3) ?_
          refine va_sld hx hb hX hbl hbA hS (i := (nI ((6 * t) + 3))) (vp_in_nI (by omega) (by omega)) d_La_law_223 ?_
          refine aw_ti (y := s3) (by rw [nI_clamp (by omega)]; exact hs3.symm) ?_
          refine lv_i2l hx hb d_La_law_224 rfl ?_
          refine ag_topl (fun y51 ey51 => ?_)
          refine lv_ldc2 (v := 4294967295) hx hb hown (hG _ gw_13_3) d_La_law_225 ?_
          refine lv_land hx hb d_La_law_228 ?_
          refine ag_topl (fun y52 ey52 => ?_)
          refine lv_lor hx hb d_La_law_229 ?_
          refine ag_topl (fun y53 ey53 => ?_)
          refine lv_aload_n hx hb d_La_law_230 rfl (lv_at hl 1 rfl) ?_
          refine lv_iload hx hb d_La_law_231 (lv_at hl 5 rfl) ?_
          refine lv_iconst (v := nI 4) hx hb d_La_law_233 (by decide +kernel) ?_
          refine lv_iadd hx hb d_La_law_234 ?_
          refine aw_ti (nI_add (6 * t) 4) ?_
          refine va_sld hx hb hX hbl hbA hS (i := (nI ((6 * t) + 4))) (vp_in_nI (by omega) (by omega)) d_La_law_235 ?_
          refine aw_ti (y := s4) (by rw [nI_clamp (by omega)]; exact hs4.symm) ?_
          refine lv_i2l hx hb d_La_law_236 rfl ?_
          refine ag_topl (fun y54 ey54 => ?_)
          refine lv_bipush (v := nI 32) hx hb d_La_law_237 (by decide +kernel) ?_
          refine lv_lshl hx hb d_La_law_239 rfl ?_
          refine ag_topl (fun y55 ey55 => ?_)
          refine lv_aload_n hx hb d_La_law_240 rfl (lv_at hl 1 rfl) ?_
          refine lv_iload hx hb d_La_law_241 (lv_at hl 5 rfl) ?_
          refine lv_iconst (v := nI 5) hx hb d_La_law_243 (by decide +kernel) ?_
          refine lv_iadd hx hb d_La_law_244 ?_
          refine aw_ti (nI_add (6 * t) 5) ?_
          refine va_sld hx hb hX hbl hbA hS (i := (nI ((6 * t) + 5))) (vp_in_nI (by omega) (by omega)) d_La_law_245 ?_
          refine aw_ti (y := s5) (by rw [nI_clamp (by omega)]; exact hs5.symm) ?_
          refine lv_i2l hx hb d_La_law_246 rfl ?_
          refine ag_topl (fun y56 ey56 => ?_)
          refine lv_ldc2 (v := 4294967295) hx hb hown (hG _ gw_13_3) d_La_law_247 ?_
          refine lv_land hx hb d_La_law_250 ?_
          refine ag_topl (fun y57 ey57 => ?_)
          refine lv_lor hx hb d_La_law_251 ?_
          refine ag_topl (fun y58 ey58 => ?_)
          obtain ⟨_, he59⟩ := zr_M0 hSh
          refine va_callv (va_runV (As := [.int (nI j), .long y53, .long y58]) (rest := []) ⟨hx, hb, hml, hown, hG⟩ (k_Mo_keyXsV l D g ad N0 zG zO zX zY zA zB zM zI zL zK zN zF zQ j y53 y58 hj (by omega)) (aw_wV 3 hG gw_10_41 gw_10_38 gw_0_10 gw_10_39 gw_10_40 rfl rfl hd_Mo_key ⟨Nat.le_of_ble_eq_true rfl, Nat.le_of_ble_eq_true rfl⟩) (ag_qV (va_recv hK hP rfl he59) hP hD hSh hU hS) rfl rfl hl.1 rfl (lv_room (Nat.le_of_ble_eq_true rfl)) d_La_law_252 ⟨by omega, by omega⟩) hS (fun _ _ h => h) (fun _ h => h) ?_
          clear hP hD hSh hS he59
          intro u8 t8 H locs ht _ _ hB _ _ hS
          obtain ⟨L, hP, hD, hSh⟩ := hB
          rw [ht] at hP
          clear ht
          refine lv_goto (tgt := 853) hx hb d_La_law_255 (by decide) ?_
          refine lv_iinc (k := 5) (v := nI (6 * t + 6)) hx hb d_La_law_853 hl rfl (aw_inc (6 * t) 6 6 (by decide +kernel)) (by decide) rfl (fun ls hl => ?_)
          have hl : lv_has ls 8 [(4, .int (nI (6 * t + 6))), (5, .int (nI 2)), (0, .ref b), (1, .ref (aw_r ad 0)), (2, .ref (aw_m ad 0)), (3, .ref (aw_o ad))] := hl
          refine lv_goto (tgt := 23) hx hb d_La_law_856 (by decide) ?_
          have hl := lv_sub hl (l' := [(0, .ref b), (1, .ref (aw_r ad 0)), (2, .ref (aw_m ad 0)), (3, .ref (aw_o ad)), (4, .int (nI (6 * t + 6)))]) [2, 3, 4, 5, 0] rfl
          refine W.widen (k := 85 + (t + 1)) (n := 1246 + 6 * (t + 1)) (by omega) (by omega) ?_
          exact ih (t + 1) zG zO zX zY zA zB zM zI zL zK zN (nI 2) zQ _ _ L ls (by omega) hP hD hSh hR hS (by first | exact hl | simpa [Nat.mul_add] using hl)
        · refine lv_aload_n hx hb d_La_law_145 rfl (lv_at hl 1 rfl) ?_
          refine lv_aload_n hx hb d_La_law_146 rfl (lv_at hl 0 rfl) ?_
          refine lv_iload hx hb d_La_law_147 (lv_at hl 4 rfl) ?_
          refine lv_iconst (v := nI 1) hx hb d_La_law_149 (by decide +kernel) ?_
          refine lv_iadd hx hb d_La_law_150 ?_
          refine aw_ti (nI_add (6 * t) 1) ?_
          refine va_sld hx hb hX hbl hbA hS (i := (nI ((6 * t) + 1))) (vp_in_nI (by omega) (by omega)) d_La_law_151 ?_
          refine aw_ti (y := nI j) (by rw [nI_clamp (by omega)]; exact hc0.symm) ?_
          refine lv_aload_n hx hb d_La_law_152 rfl (lv_at hl 0 rfl) ?_
          refine lv_iload hx hb d_La_law_153 (lv_at hl 4 rfl) ?_
          refine lv_iconst (v := nI 2) hx hb d_La_law_155 (by decide +kernel) ?_
          refine lv_iadd hx hb d_La_law_156 ?_
          refine aw_ti (nI_add (6 * t) 2) ?_
          refine va_sld hx hb hX hbl hbA hS (i := (nI ((6 * t) + 2))) (vp_in_nI (by omega) (by omega)) d_La_law_157 ?_
          refine aw_ti (y := s2) (by rw [nI_clamp (by omega)]; exact hs2.symm) ?_
          refine lv_i2l hx hb d_La_law_158 rfl ?_
          refine ag_topl (fun y60 ey60 => ?_)
          refine lv_bipush (v := nI 32) hx hb d_La_law_159 (by decide +kernel) ?_
          refine lv_lshl hx hb d_La_law_161 rfl ?_
          refine ag_topl (fun y61 ey61 => ?_)
          refine lv_aload_n hx hb d_La_law_162 rfl (lv_at hl 0 rfl) ?_
          refine lv_iload hx hb d_La_law_163 (lv_at hl 4 rfl) ?_
          refine lv_iconst (v := nI 3) hx hb d_La_law_165 (by decide +kernel) ?_
          refine lv_iadd hx hb d_La_law_166 ?_
          refine aw_ti (nI_add (6 * t) 3) ?_
          refine va_sld hx hb hX hbl hbA hS (i := (nI ((6 * t) + 3))) (vp_in_nI (by omega) (by omega)) d_La_law_167 ?_
          refine aw_ti (y := s3) (by rw [nI_clamp (by omega)]; exact hs3.symm) ?_
          refine lv_i2l hx hb d_La_law_168 rfl ?_
          refine ag_topl (fun y62 ey62 => ?_)
          refine lv_ldc2 (v := 4294967295) hx hb hown (hG _ gw_13_3) d_La_law_169 ?_
          refine lv_land hx hb d_La_law_172 ?_
          refine ag_topl (fun y63 ey63 => ?_)
          refine lv_lor hx hb d_La_law_173 ?_
          refine ag_topl (fun y64 ey64 => ?_)
          refine lv_aload_n hx hb d_La_law_174 rfl (lv_at hl 0 rfl) ?_
          refine lv_iload hx hb d_La_law_175 (lv_at hl 4 rfl) ?_
          refine lv_iconst (v := nI 4) hx hb d_La_law_177 (by decide +kernel) ?_
          refine lv_iadd hx hb d_La_law_178 ?_
          refine aw_ti (nI_add (6 * t) 4) ?_
          refine va_sld hx hb hX hbl hbA hS (i := (nI ((6 * t) + 4))) (vp_in_nI (by omega) (by omega)) d_La_law_179 ?_
          refine aw_ti (y := s4) (by rw [nI_clamp (by omega)]; exact hs4.symm) ?_
          refine lv_i2l hx hb d_La_law_180 rfl ?_
          refine ag_topl (fun y65 ey65 => ?_)
          refine lv_bipush (v := nI 32) hx hb d_La_law_181 (by decide +kernel) ?_
          refine lv_lshl hx hb d_La_law_183 rfl ?_
          refine ag_topl (fun y66 ey66 => ?_)
          refine lv_aload_n hx hb d_La_law_184 rfl (lv_at hl 0 rfl) ?_
          refine lv_iload hx hb d_La_law_185 (lv_at hl 4 rfl) ?_
          refine lv_iconst (v := nI 5) hx hb d_La_law_187 (by decide +kernel) ?_
          refine lv_iadd hx hb d_La_law_188 ?_
          refine aw_ti (nI_add (6 * t) 5) ?_
          refine va_sld hx hb hX hbl hbA hS (i := (nI ((6 * t) + 5))) (vp_in_nI (by omega) (by omega)) d_La_law_189 ?_
          refine aw_ti (y := s5) (by rw [nI_clamp (by omega)]; exact hs5.symm) ?_
          refine lv_i2l hx hb d_La_law_190 rfl ?_
          refine ag_topl (fun y67 ey67 => ?_)
          refine lv_ldc2 (v := 4294967295) hx hb hown (hG _ gw_13_3) d_La_law_191 ?_
          refine lv_land hx hb d_La_law_194 ?_
          refine ag_topl (fun y68 ey68 => ?_)
          refine lv_lor hx hb d_La_law_195 ?_
          refine ag_topl (fun y69 ey69 => ?_)
          refine va_calli (vx_runSW (As := [.ref (aw_r ad 0), .int (nI j), .long y64, .long y69]) (rest := []) ⟨hx, hb, hml, hown, hG⟩ (k_La_key1V l hst D g ad N0 zG zO zX zY zA zB zM zI zL zK zN zF zQ j y64 y69 hj (by omega)) (aw_wW 4 hG gw_4_19 gw_4_17 gw_0_0 gw_4_18 rfl rfl hd_La_key ⟨Nat.le_of_ble_eq_true rfl, Nat.le_of_ble_eq_true rfl⟩) (ag_qS hP hD hSh hU hS) rfl rfl hl.1 rfl (lv_room (Nat.le_of_ble_eq_true rfl)) d_La_law_196 ⟨by omega, by omega⟩) hS (fun _ _ h => h) (fun _ h => h) ?_
          clear hP hD hSh hS
          intro x70 u8 t8 H locs ht _ ex70 hB _ _ hS
          obtain ⟨L, hP, hD, hSh⟩ := hB
          rw [ht] at hP
          clear ht
          subst ex70
          obtain ⟨zG71, ezG71⟩ : ∃ z : Nat → Nat × Nat, v_La_key1V_zG zG zO zA j y64 y69 = z := ⟨_, rfl⟩
          rw [ezG71] at hSh
          obtain ⟨zA72, ezA72⟩ : ∃ z : Nat → Nat → Nat → Int32, v_La_key1V_zA zG zO zA j y64 y69 = z := ⟨_, rfl⟩
          rw [ezA72] at hSh
          refine lv_istore hx hb d_La_law_199 hl (by decide) rfl (fun ls hl => ?_)
          have hl : lv_has ls 8 [(5, .int (nI 0)), (0, .ref b), (1, .ref (aw_r ad 0)), (2, .ref (aw_m ad 0)), (3, .ref (aw_o ad)), (4, .int (nI (6 * t)))] := hl
          refine lv_aload_n hx hb d_La_law_201 rfl (lv_at hl 3 rfl) ?_
          refine lv_aload_n hx hb d_La_law_202 rfl (lv_at hl 1 rfl) ?_
          refine lv_iload hx hb d_La_law_203 (lv_at hl 5 rfl) ?_
          refine lv_iconst (v := nI 1) hx hb d_La_law_205 (by decide +kernel) ?_
          refine lv_iadd hx hb d_La_law_206 ?_
          refine aw_ti (nI_add (6 * t) 1) ?_
          refine va_sld hx hb hX hbl hbA hS (i := (nI ((6 * t) + 1))) (vp_in_nI (by omega) (by omega)) d_La_law_207 ?_
          refine aw_ti (y := nI j) (by rw [nI_clamp (by omega)]; exact hc0.symm) ?_
          refine lv_aload_n hx hb d_La_law_208 rfl (lv_at hl 1 rfl) ?_
          refine lv_iload hx hb d_La_law_209 (lv_at hl 5 rfl) ?_
          refine lv_iconst (v := nI 2) hx hb d_La_law_211 (by decide +kernel) ?_
          refine lv_iadd hx hb d_La_law_212 ?_
          refine aw_ti (nI_add (6 * t) 2) ?_
          refine va_sld hx hb hX hbl hbA hS (i := (nI ((6 * t) + 2))) (vp_in_nI (by omega) (by omega)) d_La_law_213 ?_
          refine aw_ti (y := s2) (by rw [nI_clamp (by omega)]; exact hs2.symm) ?_
          refine lv_i2l hx hb d_La_law_214 rfl ?_
          refine ag_topl (fun y73 ey73 => ?_)
          refine lv_bipush (v := nI 32) hx hb d_La_law_215 (by decide +kernel) ?_
          refine lv_lshl hx hb d_La_law_217 rfl ?_
          refine ag_topl (fun y74 ey74 => ?_)
          refine lv_aload_n hx hb d_La_law_218 rfl (lv_at hl 1 rfl) ?_
          refine lv_iload hx hb d_La_law_219 (lv_at hl 5 rfl) ?_
          refine lv_iconst (v := nI 3) hx hb d_La_law_221 (by decide +kernel) ?_
          refine lv_iadd hx hb d_La_law_222 ?_
          refine aw_ti (nI_add (6 * t) 3) ?_
          refine va_sld hx hb hX hbl hbA hS (i := (nI ((6 * t) + 3))) (vp_in_nI (by omega) (by omega)) d_La_law_223 ?_
          refine aw_ti (y := s3) (by rw [nI_clamp (by omega)]; exact hs3.symm) ?_
          refine lv_i2l hx hb d_La_law_224 rfl ?_
          refine ag_topl (fun y75 ey75 => ?_)
          refine lv_ldc2 (v := 4294967295) hx hb hown (hG _ gw_13_3) d_La_law_225 ?_
          refine lv_land hx hb d_La_law_228 ?_
          refine ag_topl (fun y76 ey76 => ?_)
          refine lv_lor hx hb d_La_law_229 ?_
          refine ag_topl (fun y77 ey77 => ?_)
          refine lv_aload_n hx hb d_La_law_230 rfl (lv_at hl 1 rfl) ?_
          refine lv_iload hx hb d_La_law_231 (lv_at hl 5 rfl) ?_
          refine lv_iconst (v := nI 4) hx hb d_La_law_233 (by decide +kernel) ?_
          refine lv_iadd hx hb d_La_law_234 ?_
          refine aw_ti (nI_add (6 * t) 4) ?_
          refine va_sld hx hb hX hbl hbA hS (i := (nI ((6 * t) + 4))) (vp_in_nI (by omega) (by omega)) d_La_law_235 ?_
          refine aw_ti (y := s4) (by rw [nI_clamp (by omega)]; exact hs4.symm) ?_
          refine lv_i2l hx hb d_La_law_236 rfl ?_
          refine ag_topl (fun y78 ey78 => ?_)
          refine lv_bipush (v := nI 32) hx hb d_La_law_237 (by decide +kernel) ?_
          refine lv_lshl hx hb d_La_law_239 rfl ?_
          refine ag_topl (fun y79 ey79 => ?_)
          refine lv_aload_n hx hb d_La_law_240 rfl (lv_at hl 1 rfl) ?_
          refine lv_iload hx hb d_La_law_241 (lv_at hl 5 rfl) ?_
          refine lv_iconst (v := nI 5) hx hb d_La_law_243 (by decide +kernel) ?_
          refine lv_iadd hx hb d_La_law_244 ?_
          refine aw_ti (nI_add (6 * t) 5) ?_
          refine va_sld hx hb hX hbl hbA hS (i := (nI ((6 * t) + 5))) (vp_in_nI (by omega) (by omega)) d_La_law_245 ?_
          refine aw_ti (y := s5) (by rw [nI_clamp (by omega)]; exact hs5.symm) ?_
          refine lv_i2l hx hb d_La_law_246 rfl ?_
          refine ag_topl (fun y80 ey80 => ?_)
          refine lv_ldc2 (v := 4294967295) hx hb hown (hG _ gw_13_3) d_La_law_247 ?_
          refine lv_land hx hb d_La_law_250 ?_
          refine ag_topl (fun y81 ey81 => ?_)
          refine lv_lor hx hb d_La_law_251 ?_
          refine ag_topl (fun y82 ey82 => ?_)
          obtain ⟨_, he83⟩ := zr_M0 hSh
          refine va_callv (va_runV (As := [.int (nI j), .long y77, .long y82]) (rest := []) ⟨hx, hb, hml, hown, hG⟩ (k_Mo_key1V l D g ad N0 zG71 zO zX zY zA72 zB zM zI zL zK zN zF zQ j y77 y82 hj (by omega)) (aw_wV 3 hG gw_10_41 gw_10_38 gw_0_10 gw_10_39 gw_10_40 rfl rfl hd_Mo_key ⟨Nat.le_of_ble_eq_true rfl, Nat.le_of_ble_eq_true rfl⟩) (ag_qV (va_recv hK hP rfl he83) hP hD hSh hU hS) rfl rfl hl.1 rfl (lv_room (Nat.le_of_ble_eq_true rfl)) d_La_law_252 ⟨by omega, by omega⟩) hS (fun _ _ h => h) (fun _ h => h) ?_
          clear hP hD hSh hS he83
          intro u8 t8 H locs ht _ _ hB _ _ hS
          obtain ⟨L, hP, hD, hSh⟩ := hB
          rw [ht] at hP
          clear ht
          obtain ⟨zM84, ezM84⟩ : ∃ z : Nat → Nat × Nat, v_Mo_key1V_zM zM zI zL j y77 y82 = z := ⟨_, rfl⟩
          rw [ezM84] at hSh
          obtain ⟨zI85, ezI85⟩ : ∃ z : Nat → Nat → Int32, v_Mo_key1V_zI zM zI zL j y77 y82 = z := ⟨_, rfl⟩
          rw [ezI85] at hSh
          obtain ⟨zL86, ezL86⟩ : ∃ z : Nat → Nat → Int64, v_Mo_key1V_zL zM zI zL j y77 y82 = z := ⟨_, rfl⟩
          rw [ezL86] at hSh
          refine lv_goto (tgt := 853) hx hb d_La_law_255 (by decide) ?_
          refine lv_iinc (k := 5) (v := nI (6 * t + 6)) hx hb d_La_law_853 hl rfl (aw_inc (6 * t) 6 6 (by decide +kernel)) (by decide) rfl (fun ls hl => ?_)
          have hl : lv_has ls 8 [(4, .int (nI (6 * t + 6))), (5, .int (nI 0)), (0, .ref b), (1, .ref (aw_r ad 0)), (2, .ref (aw_m ad 0)), (3, .ref (aw_o ad))] := hl
          refine lv_goto (tgt := 23) hx hb d_La_law_856 (by decide) ?_
          have hl := lv_sub hl (l' := [(0, .ref b), (1, .ref (aw_r ad 0)), (2, .ref (aw_m ad 0)), (3, .ref (aw_o ad)), (4, .int (nI (6 * t + 6)))]) [2, 3, 4, 5, 0] rfl
          refine W.widen (k := 85 + (t + 1)) (n := 1246 + 6 * (t + 1)) (by omega) (by omega) ?_
          have hR : az_R zG71 zO zX zY zA72 zB zM84 zI85 zL86 := by
            subst ezL86 ezI85 ezM84 ey82 ey81 ey80 ey79 ey78 ey77 ey76 ey75 ey74 ey73 ezA72 ezG71 ey69 ey68 ey67 ey66 ey65 ey64 ey63 ey62 ey61 ey60
            exact r_key1 hR hj hs
          exact ih (t + 1) zG71 zO zX zY zA72 zB zM84 zI85 zL86 zK zN (nI 0) zQ _ _ L ls (by omega) hP hD hSh hR hS (by first | exact hl | simpa [Nat.mul_add] using hl)
    · refine aw_ti (y := nI 2) (by rw [hs3]) ?_
      refine lv_tableIn (tgt := 258) (off := 218) hx hb d_La_law_40 (by decide +kernel) (by decide +kernel) (by decide +kernel) (by decide) ?_
      obtain ⟨c0, hc0⟩ : ∃ z : Int32, z = xs (6 * t + 1) := ⟨_, rfl⟩
      obtain ⟨k0, hk0⟩ : ∃ z : Int32, z = xs (6 * t + 2) := ⟨_, rfl⟩
      obtain ⟨s3, hs3⟩ : ∃ z : Int32, z = xs (6 * t + 3) := ⟨_, rfl⟩
      obtain ⟨s4, hs4⟩ : ∃ z : Int32, z = xs (6 * t + 4) := ⟨_, rfl⟩
      rcases aw_rng 4 (by decide) c0 with hc | ⟨j, hj, rfl⟩
      · refine lv_aload_n hx hb d_La_law_258 rfl (lv_at hl 1 rfl) ?_
        refine lv_aload_n hx hb d_La_law_259 rfl (lv_at hl 0 rfl) ?_
        refine lv_iload hx hb d_La_law_260 (lv_at hl 4 rfl) ?_
        refine lv_iconst (v := nI 1) hx hb d_La_law_262 (by decide +kernel) ?_
        refine lv_iadd hx hb d_La_law_263 ?_
        refine aw_ti (nI_add (6 * t) 1) ?_
        refine va_sld hx hb hX hbl hbA hS (i := (nI ((6 * t) + 1))) (vp_in_nI (by omega) (by omega)) d_La_law_264 ?_
        refine aw_ti (y := c0) (by rw [nI_clamp (by omega)]; exact hc0.symm) ?_
        refine lv_aload_n hx hb d_La_law_265 rfl (lv_at hl 0 rfl) ?_
        refine lv_iload hx hb d_La_law_266 (lv_at hl 4 rfl) ?_
        refine lv_iconst (v := nI 2) hx hb d_La_law_268 (by decide +kernel) ?_
        refine lv_iadd hx hb d_La_law_269 ?_
        refine aw_ti (nI_add (6 * t) 2) ?_
        refine va_sld hx hb hX hbl hbA hS (i := (nI ((6 * t) + 2))) (vp_in_nI (by omega) (by omega)) d_La_law_270 ?_
        refine aw_ti (y := k0) (by rw [nI_clamp (by omega)]; exact hk0.symm) ?_
        refine lv_aload_n hx hb d_La_law_271 rfl (lv_at hl 0 rfl) ?_
        refine lv_iload hx hb d_La_law_272 (lv_at hl 4 rfl) ?_
        refine lv_iconst (v := nI 3) hx hb d_La_law_274 (by decide +kernel) ?_
        refine lv_iadd hx hb d_La_law_275 ?_
        refine aw_ti (nI_add (6 * t) 3) ?_
        refine va_sld hx hb hX hbl hbA hS (i := (nI ((6 * t) + 3))) (vp_in_nI (by omega) (by omega)) d_La_law_276 ?_
        refine aw_ti (y := s3) (by rw [nI_clamp (by omega)]; exact hs3.symm) ?_
        refine lv_i2l hx hb d_La_law_277 rfl ?_
        refine ag_topl (fun y87 ey87 => ?_)
        refine lv_bipush (v := nI 32) hx hb d_La_law_278 (by decide +kernel) ?_
        refine lv_lshl hx hb d_La_law_280 rfl ?_
        refine ag_topl (fun y88 ey88 => ?_)
        refine lv_aload_n hx hb d_La_law_281 rfl (lv_at hl 0 rfl) ?_
        refine lv_iload hx hb d_La_law_282 (lv_at hl 4 rfl) ?_
        refine lv_iconst (v := nI 4) hx hb d_La_law_284 (by decide +kernel) ?_
        refine lv_iadd hx hb d_La_law_285 ?_
        refine aw_ti (nI_add (6 * t) 4) ?_
        refine va_sld hx hb hX hbl hbA hS (i := (nI ((6 * t) + 4))) (vp_in_nI (by omega) (by omega)) d_La_law_286 ?_
        refine aw_ti (y := s4) (by rw [nI_clamp (by omega)]; exact hs4.symm) ?_
        refine lv_i2l hx hb d_La_law_287 rfl ?_
        refine ag_topl (fun y89 ey89 => ?_)
        refine lv_ldc2 (v := 4294967295) hx hb hown (hG _ gw_13_3) d_La_law_288 ?_
        refine lv_land hx hb d_La_law_291 ?_
        refine ag_topl (fun y90 ey90 => ?_)
        refine lv_lor hx hb d_La_law_292 ?_
        refine ag_topl (fun y91 ey91 => ?_)
        refine va_calli (vx_runSW (As := [.ref (aw_r ad 0), .int c0, .int k0, .long y91]) (rest := []) ⟨hx, hb, hml, hown, hG⟩ (k_La_modeXcV l hst D g ad N0 zG zO zX zY zA zB zM zI zL zK zN zF zQ c0 k0 y91 hc) (aw_wW 4 hG gw_5_23 gw_5_21 gw_0_0 gw_5_22 rfl rfl hd_La_mode ⟨Nat.le_of_ble_eq_true rfl, Nat.le_of_ble_eq_true rfl⟩) (ag_qS hP hD hSh hU hS) rfl rfl hl.1 rfl (lv_room (Nat.le_of_ble_eq_true rfl)) d_La_law_293 ⟨by omega, by omega⟩) hS (fun _ _ h => h) (fun _ h => h) ?_
        clear hP hD hSh hS
        intro x92 u8 t8 H locs ht _ ex92 hB _ _ hS
        obtain ⟨L, hP, hD, hSh⟩ := hB
        rw [ht] at hP
        clear ht
        subst ex92
        refine lv_istore hx hb d_La_law_296 hl (by decide) rfl (fun ls hl => ?_)
        have hl : lv_has ls 8 [(5, .int (nI 1)), (0, .ref b), (1, .ref (aw_r ad 0)), (2, .ref (aw_m ad 0)), (3, .ref (aw_o ad)), (4, .int (nI (6 * t)))] := hl
        refine lv_aload_n hx hb d_La_law_298 rfl (lv_at hl 3 rfl) ?_
        refine lv_aload_n hx hb d_La_law_299 rfl (lv_at hl 1 rfl) ?_
        refine lv_iload hx hb d_La_law_300 (lv_at hl 5 rfl) ?_
        refine lv_iconst (v := nI 1) hx hb d_La_law_302 (by decide +kernel) ?_
        refine lv_iadd hx hb d_La_law_303 ?_
        refine aw_ti (nI_add (6 * t) 1) ?_
        refine va_sld hx hb hX hbl hbA hS (i := (nI ((6 * t) + 1))) (vp_in_nI (by omega) (by omega)) d_La_law_304 ?_
        refine aw_ti (y := c0) (by rw [nI_clamp (by omega)]; exact hc0.symm) ?_
        refine lv_aload_n hx hb d_La_law_305 rfl (lv_at hl 1 rfl) ?_
        refine lv_iload hx hb d_La_law_306 (lv_at hl 5 rfl) ?_
        refine lv_iconst (v := nI 2) hx hb d_La_law_308 (by decide +kernel) ?_
        refine lv_iadd hx hb d_La_law_309 ?_
        refine aw_ti (nI_add (6 * t) 2) ?_
        refine va_sld hx hb hX hbl hbA hS (i := (nI ((6 * t) + 2))) (vp_in_nI (by omega) (by omega)) d_La_law_310 ?_
        refine aw_ti (y := k0) (by rw [nI_clamp (by omega)]; exact hk0.symm) ?_
        refine lv_aload_n hx hb d_La_law_311 rfl (lv_at hl 1 rfl) ?_
        refine lv_iload hx hb d_La_law_312 (lv_at hl 5 rfl) ?_
        refine lv_iconst (v := nI 3) hx hb d_La_law_314 (by decide +kernel) ?_
        refine lv_iadd hx hb d_La_law_315 ?_
        refine aw_ti (nI_add (6 * t) 3) ?_
        refine va_sld hx hb hX hbl hbA hS (i := (nI ((6 * t) + 3))) (vp_in_nI (by omega) (by omega)) d_La_law_316 ?_
        refine aw_ti (y := s3) (by rw [nI_clamp (by omega)]; exact hs3.symm) ?_
        refine lv_i2l hx hb d_La_law_317 rfl ?_
        refine ag_topl (fun y93 ey93 => ?_)
        refine lv_bipush (v := nI 32) hx hb d_La_law_318 (by decide +kernel) ?_
        refine lv_lshl hx hb d_La_law_320 rfl ?_
        refine ag_topl (fun y94 ey94 => ?_)
        refine lv_aload_n hx hb d_La_law_321 rfl (lv_at hl 1 rfl) ?_
        refine lv_iload hx hb d_La_law_322 (lv_at hl 5 rfl) ?_
        refine lv_iconst (v := nI 4) hx hb d_La_law_324 (by decide +kernel) ?_
        refine lv_iadd hx hb d_La_law_325 ?_
        refine aw_ti (nI_add (6 * t) 4) ?_
        refine va_sld hx hb hX hbl hbA hS (i := (nI ((6 * t) + 4))) (vp_in_nI (by omega) (by omega)) d_La_law_326 ?_
        refine aw_ti (y := s4) (by rw [nI_clamp (by omega)]; exact hs4.symm) ?_
        refine lv_i2l hx hb d_La_law_327 rfl ?_
        refine ag_topl (fun y95 ey95 => ?_)
        refine lv_ldc2 (v := 4294967295) hx hb hown (hG _ gw_13_3) d_La_law_328 ?_
        refine lv_land hx hb d_La_law_331 ?_
        refine ag_topl (fun y96 ey96 => ?_)
        refine lv_lor hx hb d_La_law_332 ?_
        refine ag_topl (fun y97 ey97 => ?_)
        obtain ⟨_, he98⟩ := zr_M0 hSh
        refine va_callv (va_runV (As := [.int c0, .int k0, .long y97]) (rest := []) ⟨hx, hb, hml, hown, hG⟩ (k_Mo_modeXcV l D g ad N0 zG zO zX zY zA zB zM zI zL zK zN zF zQ c0 k0 y97 hc) (aw_wV 3 hG gw_10_45 gw_10_42 gw_0_10 gw_10_43 gw_10_44 rfl rfl hd_Mo_mode ⟨Nat.le_of_ble_eq_true rfl, Nat.le_of_ble_eq_true rfl⟩) (ag_qV (va_recv hK hP rfl he98) hP hD hSh hU hS) rfl rfl hl.1 rfl (lv_room (Nat.le_of_ble_eq_true rfl)) d_La_law_333 ⟨by omega, by omega⟩) hS (fun _ _ h => h) (fun _ h => h) ?_
        clear hP hD hSh hS he98
        intro u8 t8 H locs ht _ _ hB _ _ hS
        obtain ⟨L, hP, hD, hSh⟩ := hB
        rw [ht] at hP
        clear ht
        refine lv_goto (tgt := 853) hx hb d_La_law_336 (by decide) ?_
        refine lv_iinc (k := 5) (v := nI (6 * t + 6)) hx hb d_La_law_853 hl rfl (aw_inc (6 * t) 6 6 (by decide +kernel)) (by decide) rfl (fun ls hl => ?_)
        have hl : lv_has ls 8 [(4, .int (nI (6 * t + 6))), (5, .int (nI 1)), (0, .ref b), (1, .ref (aw_r ad 0)), (2, .ref (aw_m ad 0)), (3, .ref (aw_o ad))] := hl
        refine lv_goto (tgt := 23) hx hb d_La_law_856 (by decide) ?_
        have hl := lv_sub hl (l' := [(0, .ref b), (1, .ref (aw_r ad 0)), (2, .ref (aw_m ad 0)), (3, .ref (aw_o ad)), (4, .int (nI (6 * t + 6)))]) [2, 3, 4, 5, 0] rfl
        refine W.widen (k := 85 + (t + 1)) (n := 1246 + 6 * (t + 1)) (by omega) (by omega) ?_
        exact ih (t + 1) zG zO zX zY zA zB zM zI zL zK zN (nI 1) zQ _ _ L ls (by omega) hP hD hSh hR hS (by first | exact hl | simpa [Nat.mul_add] using hl)
      · have hgj := hSh.2.2.2.2.1 j hj
        have hq1 : (zM j).1 = (zG j).1 := by rw [hR.1 j hj]
        have hq2 : (zM j).2 = (zG j).2 := by rw [hR.1 j hj]
        rcases aw_ovr 5 (by decide) k0 with hk | ⟨k, hk, rfl⟩
        · refine lv_aload_n hx hb d_La_law_258 rfl (lv_at hl 1 rfl) ?_
          refine lv_aload_n hx hb d_La_law_259 rfl (lv_at hl 0 rfl) ?_
          refine lv_iload hx hb d_La_law_260 (lv_at hl 4 rfl) ?_
          refine lv_iconst (v := nI 1) hx hb d_La_law_262 (by decide +kernel) ?_
          refine lv_iadd hx hb d_La_law_263 ?_
          refine aw_ti (nI_add (6 * t) 1) ?_
          refine va_sld hx hb hX hbl hbA hS (i := (nI ((6 * t) + 1))) (vp_in_nI (by omega) (by omega)) d_La_law_264 ?_
          refine aw_ti (y := nI j) (by rw [nI_clamp (by omega)]; exact hc0.symm) ?_
          refine lv_aload_n hx hb d_La_law_265 rfl (lv_at hl 0 rfl) ?_
          refine lv_iload hx hb d_La_law_266 (lv_at hl 4 rfl) ?_
          refine lv_iconst (v := nI 2) hx hb d_La_law_268 (by decide +kernel) ?_
          refine lv_iadd hx hb d_La_law_269 ?_
          refine aw_ti (nI_add (6 * t) 2) ?_
          refine va_sld hx hb hX hbl hbA hS (i := (nI ((6 * t) + 2))) (vp_in_nI (by omega) (by omega)) d_La_law_270 ?_
          refine aw_ti (y := k0) (by rw [nI_clamp (by omega)]; exact hk0.symm) ?_
          refine lv_aload_n hx hb d_La_law_271 rfl (lv_at hl 0 rfl) ?_
          refine lv_iload hx hb d_La_law_272 (lv_at hl 4 rfl) ?_
          refine lv_iconst (v := nI 3) hx hb d_La_law_274 (by decide +kernel) ?_
          refine lv_iadd hx hb d_La_law_275 ?_
          refine aw_ti (nI_add (6 * t) 3) ?_
          refine va_sld hx hb hX hbl hbA hS (i := (nI ((6 * t) + 3))) (vp_in_nI (by omega) (by omega)) d_La_law_276 ?_
          refine aw_ti (y := s3) (by rw [nI_clamp (by omega)]; exact hs3.symm) ?_
          refine lv_i2l hx hb d_La_law_277 rfl ?_
          refine ag_topl (fun y99 ey99 => ?_)
          refine lv_bipush (v := nI 32) hx hb d_La_law_278 (by decide +kernel) ?_
          refine lv_lshl hx hb d_La_law_280 rfl ?_
          refine ag_topl (fun y100 ey100 => ?_)
          refine lv_aload_n hx hb d_La_law_281 rfl (lv_at hl 0 rfl) ?_
          refine lv_iload hx hb d_La_law_282 (lv_at hl 4 rfl) ?_
          refine lv_iconst (v := nI 4) hx hb d_La_law_284 (by decide +kernel) ?_
          refine lv_iadd hx hb d_La_law_285 ?_
          refine aw_ti (nI_add (6 * t) 4) ?_
          refine va_sld hx hb hX hbl hbA hS (i := (nI ((6 * t) + 4))) (vp_in_nI (by omega) (by omega)) d_La_law_286 ?_
          refine aw_ti (y := s4) (by rw [nI_clamp (by omega)]; exact hs4.symm) ?_
          refine lv_i2l hx hb d_La_law_287 rfl ?_
          refine ag_topl (fun y101 ey101 => ?_)
          refine lv_ldc2 (v := 4294967295) hx hb hown (hG _ gw_13_3) d_La_law_288 ?_
          refine lv_land hx hb d_La_law_291 ?_
          refine ag_topl (fun y102 ey102 => ?_)
          refine lv_lor hx hb d_La_law_292 ?_
          refine ag_topl (fun y103 ey103 => ?_)
          refine va_calli (vx_runSW (As := [.ref (aw_r ad 0), .int (nI j), .int k0, .long y103]) (rest := []) ⟨hx, hb, hml, hown, hG⟩ (k_La_modeXaV l hst D g ad N0 zG zO zX zY zA zB zM zI zL zK zN zF zQ j k0 y103 hj hk) (aw_wW 4 hG gw_5_23 gw_5_21 gw_0_0 gw_5_22 rfl rfl hd_La_mode ⟨Nat.le_of_ble_eq_true rfl, Nat.le_of_ble_eq_true rfl⟩) (ag_qS hP hD hSh hU hS) rfl rfl hl.1 rfl (lv_room (Nat.le_of_ble_eq_true rfl)) d_La_law_293 ⟨by omega, by omega⟩) hS (fun _ _ h => h) (fun _ h => h) ?_
          clear hP hD hSh hS
          intro x104 u8 t8 H locs ht _ ex104 hB _ _ hS
          obtain ⟨L, hP, hD, hSh⟩ := hB
          rw [ht] at hP
          clear ht
          subst ex104
          refine lv_istore hx hb d_La_law_296 hl (by decide) rfl (fun ls hl => ?_)
          have hl : lv_has ls 8 [(5, .int (nI 2)), (0, .ref b), (1, .ref (aw_r ad 0)), (2, .ref (aw_m ad 0)), (3, .ref (aw_o ad)), (4, .int (nI (6 * t)))] := hl
          refine lv_aload_n hx hb d_La_law_298 rfl (lv_at hl 3 rfl) ?_
          refine lv_aload_n hx hb d_La_law_299 rfl (lv_at hl 1 rfl) ?_
          refine lv_iload hx hb d_La_law_300 (lv_at hl 5 rfl) ?_
          refine lv_iconst (v := nI 1) hx hb d_La_law_302 (by decide +kernel) ?_
          refine lv_iadd hx hb d_La_law_303 ?_
          refine aw_ti (nI_add (6 * t) 1) ?_
          refine va_sld hx hb hX hbl hbA hS (i := (nI ((6 * t) + 1))) (vp_in_nI (by omega) (by omega)) d_La_law_304 ?_
          refine aw_ti (y := nI j) (by rw [nI_clamp (by omega)]; exact hc0.symm) ?_
          refine lv_aload_n hx hb d_La_law_305 rfl (lv_at hl 1 rfl) ?_
          refine lv_iload hx hb d_La_law_306 (lv_at hl 5 rfl) ?_
          refine lv_iconst (v := nI 2) hx hb d_La_law_308 (by decide +kernel) ?_
          refine lv_iadd hx hb d_La_law_309 ?_
          refine aw_ti (nI_add (6 * t) 2) ?_
          refine va_sld hx hb hX hbl hbA hS (i := (nI ((6 * t) + 2))) (vp_in_nI (by omega) (by omega)) d_La_law_310 ?_
          refine aw_ti (y := k0) (by rw [nI_clamp (by omega)]; exact hk0.symm) ?_
          refine lv_aload_n hx hb d_La_law_311 rfl (lv_at hl 1 rfl) ?_
          refine lv_iload hx hb d_La_law_312 (lv_at hl 5 rfl) ?_
          refine lv_iconst (v := nI 3) hx hb d_La_law_314 (by decide +kernel) ?_
          refine lv_iadd hx hb d_La_law_315 ?_
          refine aw_ti (nI_add (6 * t) 3) ?_
          refine va_sld hx hb hX hbl hbA hS (i := (nI ((6 * t) + 3))) (vp_in_nI (by omega) (by omega)) d_La_law_316 ?_
          refine aw_ti (y := s3) (by rw [nI_clamp (by omega)]; exact hs3.symm) ?_
          refine lv_i2l hx hb d_La_law_317 rfl ?_
          refine ag_topl (fun y105 ey105 => ?_)
          refine lv_bipush (v := nI 32) hx hb d_La_law_318 (by decide +kernel) ?_
          refine lv_lshl hx hb d_La_law_320 rfl ?_
          refine ag_topl (fun y106 ey106 => ?_)
          refine lv_aload_n hx hb d_La_law_321 rfl (lv_at hl 1 rfl) ?_
          refine lv_iload hx hb d_La_law_322 (lv_at hl 5 rfl) ?_
          refine lv_iconst (v := nI 4) hx hb d_La_law_324 (by decide +kernel) ?_
          refine lv_iadd hx hb d_La_law_325 ?_
          refine aw_ti (nI_add (6 * t) 4) ?_
          refine va_sld hx hb hX hbl hbA hS (i := (nI ((6 * t) + 4))) (vp_in_nI (by omega) (by omega)) d_La_law_326 ?_
          refine aw_ti (y := s4) (by rw [nI_clamp (by omega)]; exact hs4.symm) ?_
          refine lv_i2l hx hb d_La_law_327 rfl ?_
          refine ag_topl (fun y107 ey107 => ?_)
          refine lv_ldc2 (v := 4294967295) hx hb hown (hG _ gw_13_3) d_La_law_328 ?_
          refine lv_land hx hb d_La_law_331 ?_
          refine ag_topl (fun y108 ey108 => ?_)
          refine lv_lor hx hb d_La_law_332 ?_
          refine ag_topl (fun y109 ey109 => ?_)
          obtain ⟨_, he110⟩ := zr_M0 hSh
          refine va_callv (va_runV (As := [.int (nI j), .int k0, .long y109]) (rest := []) ⟨hx, hb, hml, hown, hG⟩ (k_Mo_modeXaV l D g ad N0 zG zO zX zY zA zB zM zI zL zK zN zF zQ j k0 y109 hj hk) (aw_wV 3 hG gw_10_45 gw_10_42 gw_0_10 gw_10_43 gw_10_44 rfl rfl hd_Mo_mode ⟨Nat.le_of_ble_eq_true rfl, Nat.le_of_ble_eq_true rfl⟩) (ag_qV (va_recv hK hP rfl he110) hP hD hSh hU hS) rfl rfl hl.1 rfl (lv_room (Nat.le_of_ble_eq_true rfl)) d_La_law_333 ⟨by omega, by omega⟩) hS (fun _ _ h => h) (fun _ h => h) ?_
          clear hP hD hSh hS he110
          intro u8 t8 H locs ht _ _ hB _ _ hS
          obtain ⟨L, hP, hD, hSh⟩ := hB
          rw [ht] at hP
          clear ht
          refine lv_goto (tgt := 853) hx hb d_La_law_336 (by decide) ?_
          refine lv_iinc (k := 5) (v := nI (6 * t + 6)) hx hb d_La_law_853 hl rfl (aw_inc (6 * t) 6 6 (by decide +kernel)) (by decide) rfl (fun ls hl => ?_)
          have hl : lv_has ls 8 [(4, .int (nI (6 * t + 6))), (5, .int (nI 2)), (0, .ref b), (1, .ref (aw_r ad 0)), (2, .ref (aw_m ad 0)), (3, .ref (aw_o ad))] := hl
          refine lv_goto (tgt := 23) hx hb d_La_law_856 (by decide) ?_
          have hl := lv_sub hl (l' := [(0, .ref b), (1, .ref (aw_r ad 0)), (2, .ref (aw_m ad 0)), (3, .ref (aw_o ad)), (4, .int (nI (6 * t + 6)))]) [2, 3, 4, 5, 0] rfl
          refine W.widen (k := 85 + (t + 1)) (n := 1246 + 6 * (t + 1)) (by omega) (by omega) ?_
          exact ih (t + 1) zG zO zX zY zA zB zM zI zL zK zN (nI 2) zQ _ _ L ls (by omega) hP hD hSh hR hS (by first | exact hl | simpa [Nat.mul_add] using hl)
        · by_cases hs : 2 ≤ (zG j).1
          · refine lv_aload_n hx hb d_La_law_258 rfl (lv_at hl 1 rfl) ?_
            refine lv_aload_n hx hb d_La_law_259 rfl (lv_at hl 0 rfl) ?_
            refine lv_iload hx hb d_La_law_260 (lv_at hl 4 rfl) ?_
            refine lv_iconst (v := nI 1) hx hb d_La_law_262 (by decide +kernel) ?_
            refine lv_iadd hx hb d_La_law_263 ?_
            refine aw_ti (nI_add (6 * t) 1) ?_
            refine va_sld hx hb hX hbl hbA hS (i := (nI ((6 * t) + 1))) (vp_in_nI (by omega) (by omega)) d_La_law_264 ?_
            refine aw_ti (y := nI j) (by rw [nI_clamp (by omega)]; exact hc0.symm) ?_
            refine lv_aload_n hx hb d_La_law_265 rfl (lv_at hl 0 rfl) ?_
            refine lv_iload hx hb d_La_law_266 (lv_at hl 4 rfl) ?_
            refine lv_iconst (v := nI 2) hx hb d_La_law_268 (by decide +kernel) ?_
            refine lv_iadd hx hb d_La_law_269 ?_
            refine aw_ti (nI_add (6 * t) 2) ?_
            refine va_sld hx hb hX hbl hbA hS (i := (nI ((6 * t) + 2))) (vp_in_nI (by omega) (by omega)) d_La_law_270 ?_
            refine aw_ti (y := nI k) (by rw [nI_clamp (by omega)]; exact hk0.symm) ?_
            refine lv_aload_n hx hb d_La_law_271 rfl (lv_at hl 0 rfl) ?_
            refine lv_iload hx hb d_La_law_272 (lv_at hl 4 rfl) ?_
            refine lv_iconst (v := nI 3) hx hb d_La_law_274 (by decide +kernel) ?_
            refine lv_iadd hx hb d_La_law_275 ?_
            refine aw_ti (nI_add (6 * t) 3) ?_
            refine va_sld hx hb hX hbl hbA hS (i := (nI ((6 * t) + 3))) (vp_in_nI (by omega) (by omega)) d_La_law_276 ?_
            refine aw_ti (y := s3) (by rw [nI_clamp (by omega)]; exact hs3.symm) ?_
            refine lv_i2l hx hb d_La_law_277 rfl ?_
            refine ag_topl (fun y111 ey111 => ?_)
            refine lv_bipush (v := nI 32) hx hb d_La_law_278 (by decide +kernel) ?_
            refine lv_lshl hx hb d_La_law_280 rfl ?_
            refine ag_topl (fun y112 ey112 => ?_)
            refine lv_aload_n hx hb d_La_law_281 rfl (lv_at hl 0 rfl) ?_
            refine lv_iload hx hb d_La_law_282 (lv_at hl 4 rfl) ?_
            refine lv_iconst (v := nI 4) hx hb d_La_law_284 (by decide +kernel) ?_
            refine lv_iadd hx hb d_La_law_285 ?_
            refine aw_ti (nI_add (6 * t) 4) ?_
            refine va_sld hx hb hX hbl hbA hS (i := (nI ((6 * t) + 4))) (vp_in_nI (by omega) (by omega)) d_La_law_286 ?_
            refine aw_ti (y := s4) (by rw [nI_clamp (by omega)]; exact hs4.symm) ?_
            refine lv_i2l hx hb d_La_law_287 rfl ?_
            refine ag_topl (fun y113 ey113 => ?_)
            refine lv_ldc2 (v := 4294967295) hx hb hown (hG _ gw_13_3) d_La_law_288 ?_
            refine lv_land hx hb d_La_law_291 ?_
            refine ag_topl (fun y114 ey114 => ?_)
            refine lv_lor hx hb d_La_law_292 ?_
            refine ag_topl (fun y115 ey115 => ?_)
            refine va_calli (vx_runSW (As := [.ref (aw_r ad 0), .int (nI j), .int (nI k), .long y115]) (rest := []) ⟨hx, hb, hml, hown, hG⟩ (k_La_mode1V l hst D g ad N0 zG zO zX zY zA zB zM zI zL zK zN zF zQ j k y115 hj (by omega) (by omega)) (aw_wW 4 hG gw_5_23 gw_5_21 gw_0_0 gw_5_22 rfl rfl hd_La_mode ⟨Nat.le_of_ble_eq_true rfl, Nat.le_of_ble_eq_true rfl⟩) (ag_qS hP hD hSh hU hS) rfl rfl hl.1 rfl (lv_room (Nat.le_of_ble_eq_true rfl)) d_La_law_293 ⟨by omega, by omega⟩) hS (fun _ _ h => h) (fun _ h => h) ?_
            clear hP hD hSh hS
            intro x116 u8 t8 H locs ht _ ex116 hB _ _ hS
            obtain ⟨L, hP, hD, hSh⟩ := hB
            rw [ht] at hP
            clear ht
            subst ex116
            obtain ⟨zG117, ezG117⟩ : ∃ z : Nat → Nat × Nat, v_La_mode1V_zG zG zX zY j k y115 = z := ⟨_, rfl⟩
            rw [ezG117] at hSh
            obtain ⟨zX118, ezX118⟩ : ∃ z : Nat → Nat → Int64, v_La_mode1V_zX zG zX zY j k y115 = z := ⟨_, rfl⟩
            rw [ezX118] at hSh
            obtain ⟨zY119, ezY119⟩ : ∃ z : Nat → Nat → Int32, v_La_mode1V_zY zG zX zY j k y115 = z := ⟨_, rfl⟩
            rw [ezY119] at hSh
            refine lv_istore hx hb d_La_law_296 hl (by decide) rfl (fun ls hl => ?_)
            have hl : lv_has ls 8 [(5, .int (nI 0)), (0, .ref b), (1, .ref (aw_r ad 0)), (2, .ref (aw_m ad 0)), (3, .ref (aw_o ad)), (4, .int (nI (6 * t)))] := hl
            refine lv_aload_n hx hb d_La_law_298 rfl (lv_at hl 3 rfl) ?_
            refine lv_aload_n hx hb d_La_law_299 rfl (lv_at hl 1 rfl) ?_
            refine lv_iload hx hb d_La_law_300 (lv_at hl 5 rfl) ?_
            refine lv_iconst (v := nI 1) hx hb d_La_law_302 (by decide +kernel) ?_
            refine lv_iadd hx hb d_La_law_303 ?_
            refine aw_ti (nI_add (6 * t) 1) ?_
            refine va_sld hx hb hX hbl hbA hS (i := (nI ((6 * t) + 1))) (vp_in_nI (by omega) (by omega)) d_La_law_304 ?_
            refine aw_ti (y := nI j) (by rw [nI_clamp (by omega)]; exact hc0.symm) ?_
            refine lv_aload_n hx hb d_La_law_305 rfl (lv_at hl 1 rfl) ?_
            refine lv_iload hx hb d_La_law_306 (lv_at hl 5 rfl) ?_
            refine lv_iconst (v := nI 2) hx hb d_La_law_308 (by decide +kernel) ?_
            refine lv_iadd hx hb d_La_law_309 ?_
            refine aw_ti (nI_add (6 * t) 2) ?_
            refine va_sld hx hb hX hbl hbA hS (i := (nI ((6 * t) + 2))) (vp_in_nI (by omega) (by omega)) d_La_law_310 ?_
            refine aw_ti (y := nI k) (by rw [nI_clamp (by omega)]; exact hk0.symm) ?_
            refine lv_aload_n hx hb d_La_law_311 rfl (lv_at hl 1 rfl) ?_
            refine lv_iload hx hb d_La_law_312 (lv_at hl 5 rfl) ?_
            refine lv_iconst (v := nI 3) hx hb d_La_law_314 (by decide +kernel) ?_
            refine lv_iadd hx hb d_La_law_315 ?_
            refine aw_ti (nI_add (6 * t) 3) ?_
            refine va_sld hx hb hX hbl hbA hS (i := (nI ((6 * t) + 3))) (vp_in_nI (by omega) (by omega)) d_La_law_316 ?_
            refine aw_ti (y := s3) (by rw [nI_clamp (by omega)]; exact hs3.symm) ?_
            refine lv_i2l hx hb d_La_law_317 rfl ?_
            refine ag_topl (fun y120 ey120 => ?_)
            refine lv_bipush (v := nI 32) hx hb d_La_law_318 (by decide +kernel) ?_
            refine lv_lshl hx hb d_La_law_320 rfl ?_
            refine ag_topl (fun y121 ey121 => ?_)
            refine lv_aload_n hx hb d_La_law_321 rfl (lv_at hl 1 rfl) ?_
            refine lv_iload hx hb d_La_law_322 (lv_at hl 5 rfl) ?_
            refine lv_iconst (v := nI 4) hx hb d_La_law_324 (by decide +kernel) ?_
            refine lv_iadd hx hb d_La_law_325 ?_
            refine aw_ti (nI_add (6 * t) 4) ?_
            refine va_sld hx hb hX hbl hbA hS (i := (nI ((6 * t) + 4))) (vp_in_nI (by omega) (by omega)) d_La_law_326 ?_
            refine aw_ti (y := s4) (by rw [nI_clamp (by omega)]; exact hs4.symm) ?_
            refine lv_i2l hx hb d_La_law_327 rfl ?_
            refine ag_topl (fun y122 ey122 => ?_)
            refine lv_ldc2 (v := 4294967295) hx hb hown (hG _ gw_13_3) d_La_law_328 ?_
            refine lv_land hx hb d_La_law_331 ?_
            refine ag_topl (fun y123 ey123 => ?_)
            refine lv_lor hx hb d_La_law_332 ?_
            refine ag_topl (fun y124 ey124 => ?_)
            obtain ⟨_, he125⟩ := zr_M0 hSh
            refine va_callv (va_runV (As := [.int (nI j), .int (nI k), .long y124]) (rest := []) ⟨hx, hb, hml, hown, hG⟩ (k_Mo_mode1V l D g ad N0 zG117 zO zX118 zY119 zA zB zM zI zL zK zN zF zQ j k y124 hj (by omega) (by omega)) (aw_wV 3 hG gw_10_45 gw_10_42 gw_0_10 gw_10_43 gw_10_44 rfl rfl hd_Mo_mode ⟨Nat.le_of_ble_eq_true rfl, Nat.le_of_ble_eq_true rfl⟩) (ag_qV (va_recv hK hP rfl he125) hP hD hSh hU hS) rfl rfl hl.1 rfl (lv_room (Nat.le_of_ble_eq_true rfl)) d_La_law_333 ⟨by omega, by omega⟩) hS (fun _ _ h => h) (fun _ h => h) ?_
            clear hP hD hSh hS he125
            intro u8 t8 H locs ht _ _ hB _ _ hS
            obtain ⟨L, hP, hD, hSh⟩ := hB
            rw [ht] at hP
            clear ht
            obtain ⟨zM126, ezM126⟩ : ∃ z : Nat → Nat × Nat, v_Mo_mode1V_zM zM zI zL j k y124 = z := ⟨_, rfl⟩
            rw [ezM126] at hSh
            obtain ⟨zI127, ezI127⟩ : ∃ z : Nat → Nat → Int32, v_Mo_mode1V_zI zM zI zL j k y124 = z := ⟨_, rfl⟩
            rw [ezI127] at hSh
            obtain ⟨zL128, ezL128⟩ : ∃ z : Nat → Nat → Int64, v_Mo_mode1V_zL zM zI zL j k y124 = z := ⟨_, rfl⟩
            rw [ezL128] at hSh
            refine lv_goto (tgt := 853) hx hb d_La_law_336 (by decide) ?_
            refine lv_iinc (k := 5) (v := nI (6 * t + 6)) hx hb d_La_law_853 hl rfl (aw_inc (6 * t) 6 6 (by decide +kernel)) (by decide) rfl (fun ls hl => ?_)
            have hl : lv_has ls 8 [(4, .int (nI (6 * t + 6))), (5, .int (nI 0)), (0, .ref b), (1, .ref (aw_r ad 0)), (2, .ref (aw_m ad 0)), (3, .ref (aw_o ad))] := hl
            refine lv_goto (tgt := 23) hx hb d_La_law_856 (by decide) ?_
            have hl := lv_sub hl (l' := [(0, .ref b), (1, .ref (aw_r ad 0)), (2, .ref (aw_m ad 0)), (3, .ref (aw_o ad)), (4, .int (nI (6 * t + 6)))]) [2, 3, 4, 5, 0] rfl
            refine W.widen (k := 85 + (t + 1)) (n := 1246 + 6 * (t + 1)) (by omega) (by omega) ?_
            have hR : az_R zG117 zO zX118 zY119 zA zB zM126 zI127 zL128 := by
              subst ezL128 ezI127 ezM126 ey124 ey123 ey122 ey121 ey120 ezY119 ezX118 ezG117 ey115 ey114 ey113 ey112 ey111
              exact r_mode1 hR hj hk hs
            exact ih (t + 1) zG117 zO zX118 zY119 zA zB zM126 zI127 zL128 zK zN (nI 0) zQ _ _ L ls (by omega) hP hD hSh hR hS (by first | exact hl | simpa [Nat.mul_add] using hl)
          · refine lv_aload_n hx hb d_La_law_258 rfl (lv_at hl 1 rfl) ?_
            refine lv_aload_n hx hb d_La_law_259 rfl (lv_at hl 0 rfl) ?_
            refine lv_iload hx hb d_La_law_260 (lv_at hl 4 rfl) ?_
            refine lv_iconst (v := nI 1) hx hb d_La_law_262 (by decide +kernel) ?_
            refine lv_iadd hx hb d_La_law_263 ?_
            refine aw_ti (nI_add (6 * t) 1) ?_
            refine va_sld hx hb hX hbl hbA hS (i := (nI ((6 * t) + 1))) (vp_in_nI (by omega) (by omega)) d_La_law_264 ?_
            refine aw_ti (y := nI j) (by rw [nI_clamp (by omega)]; exact hc0.symm) ?_
            refine lv_aload_n hx hb d_La_law_265 rfl (lv_at hl 0 rfl) ?_
            refine lv_iload hx hb d_La_law_266 (lv_at hl 4 rfl) ?_
            refine lv_iconst (v := nI 2) hx hb d_La_law_268 (by decide +kernel) ?_
            refine lv_iadd hx hb d_La_law_269 ?_
            refine aw_ti (nI_add (6 * t) 2) ?_
            refine va_sld hx hb hX hbl hbA hS (i := (nI ((6 * t) + 2))) (vp_in_nI (by omega) (by omega)) d_La_law_270 ?_
            refine aw_ti (y := nI k) (by rw [nI_clamp (by omega)]; exact hk0.symm) ?_
            refine lv_aload_n hx hb d_La_law_271 rfl (lv_at hl 0 rfl) ?_
            refine lv_iload hx hb d_La_law_272 (lv_at hl 4 rfl) ?_
            refine lv_iconst (v := nI 3) hx hb d_La_law_274 (by decide +kernel) ?_
            refine lv_iadd hx hb d_La_law_275 ?_
            refine aw_ti (nI_add (6 * t) 3) ?_
            refine va_sld hx hb hX hbl hbA hS (i := (nI ((6 * t) + 3))) (vp_in_nI (by omega) (by omega)) d_La_law_276 ?_
            refine aw_ti (y := s3) (by rw [nI_clamp (by omega)]; exact hs3.symm) ?_
            refine lv_i2l hx hb d_La_law_277 rfl ?_
            refine ag_topl (fun y129 ey129 => ?_)
            refine lv_bipush (v := nI 32) hx hb d_La_law_278 (by decide +kernel) ?_
            refine lv_lshl hx hb d_La_law_280 rfl ?_
            refine ag_topl (fun y130 ey130 => ?_)
            refine lv_aload_n hx hb d_La_law_281 rfl (lv_at hl 0 rfl) ?_
            refine lv_iload hx hb d_La_law_282 (lv_at hl 4 rfl) ?_
            refine lv_iconst (v := nI 4) hx hb d_La_law_284 (by decide +kernel) ?_
            refine lv_iadd hx hb d_La_law_285 ?_
            refine aw_ti (nI_add (6 * t) 4) ?_
            refine va_sld hx hb hX hbl hbA hS (i := (nI ((6 * t) + 4))) (vp_in_nI (by omega) (by omega)) d_La_law_286 ?_
            refine aw_ti (y := s4) (by rw [nI_clamp (by omega)]; exact hs4.symm) ?_
            refine lv_i2l hx hb d_La_law_287 rfl ?_
            refine ag_topl (fun y131 ey131 => ?_)
            refine lv_ldc2 (v := 4294967295) hx hb hown (hG _ gw_13_3) d_La_law_288 ?_
            refine lv_land hx hb d_La_law_291 ?_
            refine ag_topl (fun y132 ey132 => ?_)
            refine lv_lor hx hb d_La_law_292 ?_
            refine ag_topl (fun y133 ey133 => ?_)
            refine va_calli (vx_runSW (As := [.ref (aw_r ad 0), .int (nI j), .int (nI k), .long y133]) (rest := []) ⟨hx, hb, hml, hown, hG⟩ (k_La_modeXsV l hst D g ad N0 zG zO zX zY zA zB zM zI zL zK zN zF zQ j k y133 hj (by omega) (by omega)) (aw_wW 4 hG gw_5_23 gw_5_21 gw_0_0 gw_5_22 rfl rfl hd_La_mode ⟨Nat.le_of_ble_eq_true rfl, Nat.le_of_ble_eq_true rfl⟩) (ag_qS hP hD hSh hU hS) rfl rfl hl.1 rfl (lv_room (Nat.le_of_ble_eq_true rfl)) d_La_law_293 ⟨by omega, by omega⟩) hS (fun _ _ h => h) (fun _ h => h) ?_
            clear hP hD hSh hS
            intro x134 u8 t8 H locs ht _ ex134 hB _ _ hS
            obtain ⟨L, hP, hD, hSh⟩ := hB
            rw [ht] at hP
            clear ht
            subst ex134
            refine lv_istore hx hb d_La_law_296 hl (by decide) rfl (fun ls hl => ?_)
            have hl : lv_has ls 8 [(5, .int (nI 3)), (0, .ref b), (1, .ref (aw_r ad 0)), (2, .ref (aw_m ad 0)), (3, .ref (aw_o ad)), (4, .int (nI (6 * t)))] := hl
            refine lv_aload_n hx hb d_La_law_298 rfl (lv_at hl 3 rfl) ?_
            refine lv_aload_n hx hb d_La_law_299 rfl (lv_at hl 1 rfl) ?_
            refine lv_iload hx hb d_La_law_300 (lv_at hl 5 rfl) ?_
            refine lv_iconst (v := nI 1) hx hb d_La_law_302 (by decide +kernel) ?_
            refine lv_iadd hx hb d_La_law_303 ?_
            refine aw_ti (nI_add (6 * t) 1) ?_
            refine va_sld hx hb hX hbl hbA hS (i := (nI ((6 * t) + 1))) (vp_in_nI (by omega) (by omega)) d_La_law_304 ?_
            refine aw_ti (y := nI j) (by rw [nI_clamp (by omega)]; exact hc0.symm) ?_
            refine lv_aload_n hx hb d_La_law_305 rfl (lv_at hl 1 rfl) ?_
            refine lv_iload hx hb d_La_law_306 (lv_at hl 5 rfl) ?_
            refine lv_iconst (v := nI 2) hx hb d_La_law_308 (by decide +kernel) ?_
            refine lv_iadd hx hb d_La_law_309 ?_
            refine aw_ti (nI_add (6 * t) 2) ?_
            refine va_sld hx hb hX hbl hbA hS (i := (nI ((6 * t) + 2))) (vp_in_nI (by omega) (by omega)) d_La_law_310 ?_
            refine aw_ti (y := nI k) (by rw [nI_clamp (by omega)]; exact hk0.symm) ?_
            refine lv_aload_n hx hb d_La_law_311 rfl (lv_at hl 1 rfl) ?_
            refine lv_iload hx hb d_La_law_312 (lv_at hl 5 rfl) ?_
            refine lv_iconst (v := nI 3) hx hb d_La_law_314 (by decide +kernel) ?_
            refine lv_iadd hx hb d_La_law_315 ?_
            refine aw_ti (nI_add (6 * t) 3) ?_
            refine va_sld hx hb hX hbl hbA hS (i := (nI ((6 * t) + 3))) (vp_in_nI (by omega) (by omega)) d_La_law_316 ?_
            refine aw_ti (y := s3) (by rw [nI_clamp (by omega)]; exact hs3.symm) ?_
            refine lv_i2l hx hb d_La_law_317 rfl ?_
            refine ag_topl (fun y135 ey135 => ?_)
            refine lv_bipush (v := nI 32) hx hb d_La_law_318 (by decide +kernel) ?_
            refine lv_lshl hx hb d_La_law_320 rfl ?_
            refine ag_topl (fun y136 ey136 => ?_)
            refine lv_aload_n hx hb d_La_law_321 rfl (lv_at hl 1 rfl) ?_
            refine lv_iload hx hb d_La_law_322 (lv_at hl 5 rfl) ?_
            refine lv_iconst (v := nI 4) hx hb d_La_law_324 (by decide +kernel) ?_
            refine lv_iadd hx hb d_La_law_325 ?_
            refine aw_ti (nI_add (6 * t) 4) ?_
            refine va_sld hx hb hX hbl hbA hS (i := (nI ((6 * t) + 4))) (vp_in_nI (by omega) (by omega)) d_La_law_326 ?_
            refine aw_ti (y := s4) (by rw [nI_clamp (by omega)]; exact hs4.symm) ?_
            refine lv_i2l hx hb d_La_law_327 rfl ?_
            refine ag_topl (fun y137 ey137 => ?_)
            refine lv_ldc2 (v := 4294967295) hx hb hown (hG _ gw_13_3) d_La_law_328 ?_
            refine lv_land hx hb d_La_law_331 ?_
            refine ag_topl (fun y138 ey138 => ?_)
            refine lv_lor hx hb d_La_law_332 ?_
            refine ag_topl (fun y139 ey139 => ?_)
            obtain ⟨_, he140⟩ := zr_M0 hSh
            refine va_callv (va_runV (As := [.int (nI j), .int (nI k), .long y139]) (rest := []) ⟨hx, hb, hml, hown, hG⟩ (k_Mo_modeXsV l D g ad N0 zG zO zX zY zA zB zM zI zL zK zN zF zQ j k y139 hj (by omega) (by omega)) (aw_wV 3 hG gw_10_45 gw_10_42 gw_0_10 gw_10_43 gw_10_44 rfl rfl hd_Mo_mode ⟨Nat.le_of_ble_eq_true rfl, Nat.le_of_ble_eq_true rfl⟩) (ag_qV (va_recv hK hP rfl he140) hP hD hSh hU hS) rfl rfl hl.1 rfl (lv_room (Nat.le_of_ble_eq_true rfl)) d_La_law_333 ⟨by omega, by omega⟩) hS (fun _ _ h => h) (fun _ h => h) ?_
            clear hP hD hSh hS he140
            intro u8 t8 H locs ht _ _ hB _ _ hS
            obtain ⟨L, hP, hD, hSh⟩ := hB
            rw [ht] at hP
            clear ht
            refine lv_goto (tgt := 853) hx hb d_La_law_336 (by decide) ?_
            refine lv_iinc (k := 5) (v := nI (6 * t + 6)) hx hb d_La_law_853 hl rfl (aw_inc (6 * t) 6 6 (by decide +kernel)) (by decide) rfl (fun ls hl => ?_)
            have hl : lv_has ls 8 [(4, .int (nI (6 * t + 6))), (5, .int (nI 3)), (0, .ref b), (1, .ref (aw_r ad 0)), (2, .ref (aw_m ad 0)), (3, .ref (aw_o ad))] := hl
            refine lv_goto (tgt := 23) hx hb d_La_law_856 (by decide) ?_
            have hl := lv_sub hl (l' := [(0, .ref b), (1, .ref (aw_r ad 0)), (2, .ref (aw_m ad 0)), (3, .ref (aw_o ad)), (4, .int (nI (6 * t + 6)))]) [2, 3, 4, 5, 0] rfl
            refine W.widen (k := 85 + (t + 1)) (n := 1246 + 6 * (t + 1)) (by omega) (by omega) ?_
            exact ih (t + 1) zG zO zX zY zA zB zM zI zL zK zN (nI 3) zQ _ _ L ls (by omega) hP hD hSh hR hS (by first | exact hl | simpa [Nat.mul_add] using hl)
    · refine aw_ti (y := nI 3) (by rw [hs3]) ?_
      refine lv_tableIn (tgt := 339) (off := 299) hx hb d_La_law_40 (by decide +kernel) (by decide +kernel) (by decide +kernel) (by decide) ?_
      obtain ⟨c0, hc0⟩ : ∃ z : Int32, z = xs (6 * t + 1) := ⟨_, rfl⟩
      rcases aw_rng 4 (by decide) c0 with hc | ⟨j, hj, rfl⟩
      · refine lv_aload_n hx hb d_La_law_339 rfl (lv_at hl 1 rfl) ?_
        refine lv_aload_n hx hb d_La_law_340 rfl (lv_at hl 0 rfl) ?_
        refine lv_iload hx hb d_La_law_341 (lv_at hl 4 rfl) ?_
        refine lv_iconst (v := nI 1) hx hb d_La_law_343 (by decide +kernel) ?_
        refine lv_iadd hx hb d_La_law_344 ?_
        refine aw_ti (nI_add (6 * t) 1) ?_
        refine va_sld hx hb hX hbl hbA hS (i := (nI ((6 * t) + 1))) (vp_in_nI (by omega) (by omega)) d_La_law_345 ?_
        refine aw_ti (y := c0) (by rw [nI_clamp (by omega)]; exact hc0.symm) ?_
        refine va_calli (vx_runSW (As := [.ref (aw_r ad 0), .int c0]) (rest := []) ⟨hx, hb, hml, hown, hG⟩ (k_La_freeXcV l hst D g ad N0 zG zO zX zY zA zB zM zI zL zK zN zF zQ c0 hc) (aw_wW 2 hG gw_5_41 gw_5_39 gw_0_0 gw_5_40 rfl rfl hd_La_free ⟨Nat.le_of_ble_eq_true rfl, Nat.le_of_ble_eq_true rfl⟩) (ag_qS hP hD hSh hU hS) rfl rfl hl.1 rfl (lv_room (Nat.le_of_ble_eq_true rfl)) d_La_law_346 ⟨by omega, by omega⟩) hS (fun _ _ h => h) (fun _ h => h) ?_
        clear hP hD hSh hS
        intro x141 u8 t8 H locs ht _ ex141 hB _ _ hS
        obtain ⟨L, hP, hD, hSh⟩ := hB
        rw [ht] at hP
        clear ht
        subst ex141
        refine lv_istore hx hb d_La_law_349 hl (by decide) rfl (fun ls hl => ?_)
        have hl : lv_has ls 8 [(5, .int (nI 1)), (0, .ref b), (1, .ref (aw_r ad 0)), (2, .ref (aw_m ad 0)), (3, .ref (aw_o ad)), (4, .int (nI (6 * t)))] := hl
        refine lv_aload_n hx hb d_La_law_351 rfl (lv_at hl 3 rfl) ?_
        refine lv_aload_n hx hb d_La_law_352 rfl (lv_at hl 1 rfl) ?_
        refine lv_iload hx hb d_La_law_353 (lv_at hl 5 rfl) ?_
        refine lv_iconst (v := nI 1) hx hb d_La_law_355 (by decide +kernel) ?_
        refine lv_iadd hx hb d_La_law_356 ?_
        refine aw_ti (nI_add (6 * t) 1) ?_
        refine va_sld hx hb hX hbl hbA hS (i := (nI ((6 * t) + 1))) (vp_in_nI (by omega) (by omega)) d_La_law_357 ?_
        refine aw_ti (y := c0) (by rw [nI_clamp (by omega)]; exact hc0.symm) ?_
        obtain ⟨_, he142⟩ := zr_M0 hSh
        refine va_callv (va_runV (As := [.int c0]) (rest := []) ⟨hx, hb, hml, hown, hG⟩ (k_Mo_freeXcV l D g ad N0 zG zO zX zY zA zB zM zI zL zK zN zF zQ c0 hc) (aw_wV 1 hG gw_10_55 gw_10_52 gw_0_10 gw_10_53 gw_10_54 rfl rfl hd_Mo_free ⟨Nat.le_of_ble_eq_true rfl, Nat.le_of_ble_eq_true rfl⟩) (ag_qV (va_recv hK hP rfl he142) hP hD hSh hU hS) rfl rfl hl.1 rfl (lv_room (Nat.le_of_ble_eq_true rfl)) d_La_law_358 ⟨by omega, by omega⟩) hS (fun _ _ h => h) (fun _ h => h) ?_
        clear hP hD hSh hS he142
        intro u8 t8 H locs ht _ _ hB _ _ hS
        obtain ⟨L, hP, hD, hSh⟩ := hB
        rw [ht] at hP
        clear ht
        refine lv_goto (tgt := 853) hx hb d_La_law_361 (by decide) ?_
        refine lv_iinc (k := 5) (v := nI (6 * t + 6)) hx hb d_La_law_853 hl rfl (aw_inc (6 * t) 6 6 (by decide +kernel)) (by decide) rfl (fun ls hl => ?_)
        have hl : lv_has ls 8 [(4, .int (nI (6 * t + 6))), (5, .int (nI 1)), (0, .ref b), (1, .ref (aw_r ad 0)), (2, .ref (aw_m ad 0)), (3, .ref (aw_o ad))] := hl
        refine lv_goto (tgt := 23) hx hb d_La_law_856 (by decide) ?_
        have hl := lv_sub hl (l' := [(0, .ref b), (1, .ref (aw_r ad 0)), (2, .ref (aw_m ad 0)), (3, .ref (aw_o ad)), (4, .int (nI (6 * t + 6)))]) [2, 3, 4, 5, 0] rfl
        refine W.widen (k := 85 + (t + 1)) (n := 1246 + 6 * (t + 1)) (by omega) (by omega) ?_
        exact ih (t + 1) zG zO zX zY zA zB zM zI zL zK zN (nI 1) zQ _ _ L ls (by omega) hP hD hSh hR hS (by first | exact hl | simpa [Nat.mul_add] using hl)
      · have hgj := hSh.2.2.2.2.1 j hj
        have hq1 : (zM j).1 = (zG j).1 := by rw [hR.1 j hj]
        have hq2 : (zM j).2 = (zG j).2 := by rw [hR.1 j hj]
        refine lv_aload_n hx hb d_La_law_339 rfl (lv_at hl 1 rfl) ?_
        refine lv_aload_n hx hb d_La_law_340 rfl (lv_at hl 0 rfl) ?_
        refine lv_iload hx hb d_La_law_341 (lv_at hl 4 rfl) ?_
        refine lv_iconst (v := nI 1) hx hb d_La_law_343 (by decide +kernel) ?_
        refine lv_iadd hx hb d_La_law_344 ?_
        refine aw_ti (nI_add (6 * t) 1) ?_
        refine va_sld hx hb hX hbl hbA hS (i := (nI ((6 * t) + 1))) (vp_in_nI (by omega) (by omega)) d_La_law_345 ?_
        refine aw_ti (y := nI j) (by rw [nI_clamp (by omega)]; exact hc0.symm) ?_
        refine va_calli (vx_runSW (As := [.ref (aw_r ad 0), .int (nI j)]) (rest := []) ⟨hx, hb, hml, hown, hG⟩ (k_La_free1V l hst D g ad N0 zG zO zX zY zA zB zM zI zL zK zN zF zQ j hj) (aw_wW 2 hG gw_5_41 gw_5_39 gw_0_0 gw_5_40 rfl rfl hd_La_free ⟨Nat.le_of_ble_eq_true rfl, Nat.le_of_ble_eq_true rfl⟩) (ag_qS hP hD hSh hU hS) rfl rfl hl.1 rfl (lv_room (Nat.le_of_ble_eq_true rfl)) d_La_law_346 ⟨by omega, by omega⟩) hS (fun _ _ h => h) (fun _ h => h) ?_
        clear hP hD hSh hS
        intro x143 u8 t8 H locs ht _ ex143 hB _ _ hS
        obtain ⟨L, hP, hD, hSh⟩ := hB
        rw [ht] at hP
        clear ht
        subst ex143
        obtain ⟨zG144, ezG144⟩ : ∃ z : Nat → Nat × Nat, v_La_free1V_zG zG j = z := ⟨_, rfl⟩
        rw [ezG144] at hSh
        refine lv_istore hx hb d_La_law_349 hl (by decide) rfl (fun ls hl => ?_)
        have hl : lv_has ls 8 [(5, .int (nI 0)), (0, .ref b), (1, .ref (aw_r ad 0)), (2, .ref (aw_m ad 0)), (3, .ref (aw_o ad)), (4, .int (nI (6 * t)))] := hl
        refine lv_aload_n hx hb d_La_law_351 rfl (lv_at hl 3 rfl) ?_
        refine lv_aload_n hx hb d_La_law_352 rfl (lv_at hl 1 rfl) ?_
        refine lv_iload hx hb d_La_law_353 (lv_at hl 5 rfl) ?_
        refine lv_iconst (v := nI 1) hx hb d_La_law_355 (by decide +kernel) ?_
        refine lv_iadd hx hb d_La_law_356 ?_
        refine aw_ti (nI_add (6 * t) 1) ?_
        refine va_sld hx hb hX hbl hbA hS (i := (nI ((6 * t) + 1))) (vp_in_nI (by omega) (by omega)) d_La_law_357 ?_
        refine aw_ti (y := nI j) (by rw [nI_clamp (by omega)]; exact hc0.symm) ?_
        obtain ⟨_, he145⟩ := zr_M0 hSh
        refine va_callv (va_runV (As := [.int (nI j)]) (rest := []) ⟨hx, hb, hml, hown, hG⟩ (k_Mo_free1V l D g ad N0 zG144 zO zX zY zA zB zM zI zL zK zN zF zQ j hj) (aw_wV 1 hG gw_10_55 gw_10_52 gw_0_10 gw_10_53 gw_10_54 rfl rfl hd_Mo_free ⟨Nat.le_of_ble_eq_true rfl, Nat.le_of_ble_eq_true rfl⟩) (ag_qV (va_recv hK hP rfl he145) hP hD hSh hU hS) rfl rfl hl.1 rfl (lv_room (Nat.le_of_ble_eq_true rfl)) d_La_law_358 ⟨by omega, by omega⟩) hS (fun _ _ h => h) (fun _ h => h) ?_
        clear hP hD hSh hS he145
        intro u8 t8 H locs ht _ _ hB _ _ hS
        obtain ⟨L, hP, hD, hSh⟩ := hB
        rw [ht] at hP
        clear ht
        obtain ⟨zM146, ezM146⟩ : ∃ z : Nat → Nat × Nat, v_Mo_free1V_zM zM zI j = z := ⟨_, rfl⟩
        rw [ezM146] at hSh
        obtain ⟨zI147, ezI147⟩ : ∃ z : Nat → Nat → Int32, v_Mo_free1V_zI zM zI j = z := ⟨_, rfl⟩
        rw [ezI147] at hSh
        refine lv_goto (tgt := 853) hx hb d_La_law_361 (by decide) ?_
        refine lv_iinc (k := 5) (v := nI (6 * t + 6)) hx hb d_La_law_853 hl rfl (aw_inc (6 * t) 6 6 (by decide +kernel)) (by decide) rfl (fun ls hl => ?_)
        have hl : lv_has ls 8 [(4, .int (nI (6 * t + 6))), (5, .int (nI 0)), (0, .ref b), (1, .ref (aw_r ad 0)), (2, .ref (aw_m ad 0)), (3, .ref (aw_o ad))] := hl
        refine lv_goto (tgt := 23) hx hb d_La_law_856 (by decide) ?_
        have hl := lv_sub hl (l' := [(0, .ref b), (1, .ref (aw_r ad 0)), (2, .ref (aw_m ad 0)), (3, .ref (aw_o ad)), (4, .int (nI (6 * t + 6)))]) [2, 3, 4, 5, 0] rfl
        refine W.widen (k := 85 + (t + 1)) (n := 1246 + 6 * (t + 1)) (by omega) (by omega) ?_
        have hR : az_R zG144 zO zX zY zA zB zM146 zI147 zL := by
          subst ezI147 ezM146 ezG144
          exact r_free1 hR hj
        exact ih (t + 1) zG144 zO zX zY zA zB zM146 zI147 zL zK zN (nI 0) zQ _ _ L ls (by omega) hP hD hSh hR hS (by first | exact hl | simpa [Nat.mul_add] using hl)
    · refine aw_ti (y := nI 4) (by rw [hs3]) ?_
      refine lv_tableIn (tgt := 364) (off := 324) hx hb d_La_law_40 (by decide +kernel) (by decide +kernel) (by decide +kernel) (by decide) ?_
      obtain ⟨c0, hc0⟩ : ∃ z : Int32, z = xs (6 * t + 1) := ⟨_, rfl⟩
      rcases aw_rng 4 (by decide) c0 with hc | ⟨j, hj, rfl⟩
      · refine lv_aload_n hx hb d_La_law_364 rfl (lv_at hl 1 rfl) ?_
        refine lv_aload_n hx hb d_La_law_365 rfl (lv_at hl 0 rfl) ?_
        refine lv_iload hx hb d_La_law_366 (lv_at hl 4 rfl) ?_
        refine lv_iconst (v := nI 1) hx hb d_La_law_368 (by decide +kernel) ?_
        refine lv_iadd hx hb d_La_law_369 ?_
        refine aw_ti (nI_add (6 * t) 1) ?_
        refine va_sld hx hb hX hbl hbA hS (i := (nI ((6 * t) + 1))) (vp_in_nI (by omega) (by omega)) d_La_law_370 ?_
        refine aw_ti (y := c0) (by rw [nI_clamp (by omega)]; exact hc0.symm) ?_
        refine lv_aload_n hx hb d_La_law_371 rfl (lv_at hl 3 rfl) ?_
        refine va_calli (vx_runSW (As := [.ref (aw_r ad 0), .int c0, .ref (aw_o ad)]) (rest := []) ⟨hx, hb, hml, hown, hG⟩ (k_La_stageXcV l hst D g ad N0 zG zO zX zY zA zB zM zI zL zK zN zF zQ c0 hc) (aw_wW 3 hG gw_5_48 gw_5_46 gw_0_0 gw_5_47 rfl rfl hd_La_stage ⟨Nat.le_of_ble_eq_true rfl, Nat.le_of_ble_eq_true rfl⟩) (ag_qS hP hD hSh hU hS) rfl rfl hl.1 rfl (lv_room (Nat.le_of_ble_eq_true rfl)) d_La_law_372 ⟨by omega, by omega⟩) hS (fun _ _ h => h) (fun _ h => h) ?_
        clear hP hD hSh hS
        intro x148 u8 t8 H locs ht _ ex148 hB _ _ hS
        obtain ⟨L, hP, hD, hSh⟩ := hB
        rw [ht] at hP
        clear ht
        subst ex148
        refine lv_istore hx hb d_La_law_375 hl (by decide) rfl (fun ls hl => ?_)
        have hl : lv_has ls 8 [(5, .int (nI 1)), (0, .ref b), (1, .ref (aw_r ad 0)), (2, .ref (aw_m ad 0)), (3, .ref (aw_o ad)), (4, .int (nI (6 * t)))] := hl
        refine lv_aload_n hx hb d_La_law_377 rfl (lv_at hl 3 rfl) ?_
        refine lv_aload_n hx hb d_La_law_378 rfl (lv_at hl 1 rfl) ?_
        refine lv_iload hx hb d_La_law_379 (lv_at hl 5 rfl) ?_
        refine lv_iconst (v := nI 1) hx hb d_La_law_381 (by decide +kernel) ?_
        refine lv_iadd hx hb d_La_law_382 ?_
        refine aw_ti (nI_add (6 * t) 1) ?_
        refine va_sld hx hb hX hbl hbA hS (i := (nI ((6 * t) + 1))) (vp_in_nI (by omega) (by omega)) d_La_law_383 ?_
        refine aw_ti (y := c0) (by rw [nI_clamp (by omega)]; exact hc0.symm) ?_
        obtain ⟨_, he149⟩ := zr_M0 hSh
        refine va_calli (va_runV (As := [.int c0]) (rest := []) ⟨hx, hb, hml, hown, hG⟩ (k_Mo_stageXcV l D g ad N0 zG zO zX zY zA zB zM zI zL zK zN zF zQ c0 hc) (aw_wV 1 hG gw_10_59 gw_10_56 gw_0_10 gw_10_57 gw_10_58 rfl rfl hd_Mo_stage ⟨Nat.le_of_ble_eq_true rfl, Nat.le_of_ble_eq_true rfl⟩) (ag_qV (va_recv hK hP rfl he149) hP hD hSh hU hS) rfl rfl hl.1 rfl (lv_room (Nat.le_of_ble_eq_true rfl)) d_La_law_384 ⟨by omega, by omega⟩) hS (fun _ _ h => h) (fun _ h => h) ?_
        clear hP hD hSh hS he149
        intro x150 u8 t8 H locs ht _ ex150 hB _ _ hS
        obtain ⟨L, hP, hD, hSh⟩ := hB
        rw [ht] at hP
        clear ht
        have ex150 := ex150.symm
        refine lv_istore hx hb d_La_law_387 hl (by decide) rfl (fun ls hl => ?_)
        have hl : lv_has ls 8 [(6, .int x150), (5, .int (nI 1)), (0, .ref b), (1, .ref (aw_r ad 0)), (2, .ref (aw_m ad 0)), (3, .ref (aw_o ad)), (4, .int (nI (6 * t)))] := hl
        refine lv_goto (tgt := 853) hx hb d_La_law_389 (by decide) ?_
        refine lv_iinc (k := 6) (v := nI (6 * t + 6)) hx hb d_La_law_853 hl rfl (aw_inc (6 * t) 6 6 (by decide +kernel)) (by decide) rfl (fun ls hl => ?_)
        have hl : lv_has ls 8 [(4, .int (nI (6 * t + 6))), (6, .int x150), (5, .int (nI 1)), (0, .ref b), (1, .ref (aw_r ad 0)), (2, .ref (aw_m ad 0)), (3, .ref (aw_o ad))] := hl
        refine lv_goto (tgt := 23) hx hb d_La_law_856 (by decide) ?_
        have hl := lv_sub hl (l' := [(0, .ref b), (1, .ref (aw_r ad 0)), (2, .ref (aw_m ad 0)), (3, .ref (aw_o ad)), (4, .int (nI (6 * t + 6)))]) [3, 4, 5, 6, 0] rfl
        refine W.widen (k := 85 + (t + 1)) (n := 1246 + 6 * (t + 1)) (by omega) (by omega) ?_
        exact ih (t + 1) zG zO zX zY zA zB zM zI zL zK zN (nI 1) zQ _ _ L ls (by omega) hP hD hSh hR hS (by first | exact hl | simpa [Nat.mul_add] using hl)
      · have hgj := hSh.2.2.2.2.1 j hj
        have hq1 : (zM j).1 = (zG j).1 := by rw [hR.1 j hj]
        have hq2 : (zM j).2 = (zG j).2 := by rw [hR.1 j hj]
        refine lv_aload_n hx hb d_La_law_364 rfl (lv_at hl 1 rfl) ?_
        refine lv_aload_n hx hb d_La_law_365 rfl (lv_at hl 0 rfl) ?_
        refine lv_iload hx hb d_La_law_366 (lv_at hl 4 rfl) ?_
        refine lv_iconst (v := nI 1) hx hb d_La_law_368 (by decide +kernel) ?_
        refine lv_iadd hx hb d_La_law_369 ?_
        refine aw_ti (nI_add (6 * t) 1) ?_
        refine va_sld hx hb hX hbl hbA hS (i := (nI ((6 * t) + 1))) (vp_in_nI (by omega) (by omega)) d_La_law_370 ?_
        refine aw_ti (y := nI j) (by rw [nI_clamp (by omega)]; exact hc0.symm) ?_
        refine lv_aload_n hx hb d_La_law_371 rfl (lv_at hl 3 rfl) ?_
        refine va_calli (vx_runSW (As := [.ref (aw_r ad 0), .int (nI j), .ref (aw_o ad)]) (rest := []) ⟨hx, hb, hml, hown, hG⟩ (k_La_stage1V l hst D g ad N0 zG zO zX zY zA zB zM zI zL zK zN zF zQ j hj) (aw_wW 3 hG gw_5_48 gw_5_46 gw_0_0 gw_5_47 rfl rfl hd_La_stage ⟨Nat.le_of_ble_eq_true rfl, Nat.le_of_ble_eq_true rfl⟩) (ag_qS hP hD hSh hU hS) rfl rfl hl.1 rfl (lv_room (Nat.le_of_ble_eq_true rfl)) d_La_law_372 ⟨by omega, by omega⟩) hS (fun _ _ h => h) (fun _ h => h) ?_
        clear hP hD hSh hS
        intro x151 u8 t8 H locs ht _ ex151 hB _ _ hS
        obtain ⟨L, hP, hD, hSh⟩ := hB
        rw [ht] at hP
        clear ht
        subst ex151
        obtain ⟨zQ152, ezQ152⟩ : ∃ z : Int64, v_La_stage1V_zQ zG j = z := ⟨_, rfl⟩
        rw [ezQ152] at hSh
        refine lv_istore hx hb d_La_law_375 hl (by decide) rfl (fun ls hl => ?_)
        have hl : lv_has ls 8 [(5, .int (nI 0)), (0, .ref b), (1, .ref (aw_r ad 0)), (2, .ref (aw_m ad 0)), (3, .ref (aw_o ad)), (4, .int (nI (6 * t)))] := hl
        refine lv_aload_n hx hb d_La_law_377 rfl (lv_at hl 3 rfl) ?_
        refine lv_aload_n hx hb d_La_law_378 rfl (lv_at hl 1 rfl) ?_
        refine lv_iload hx hb d_La_law_379 (lv_at hl 5 rfl) ?_
        refine lv_iconst (v := nI 1) hx hb d_La_law_381 (by decide +kernel) ?_
        refine lv_iadd hx hb d_La_law_382 ?_
        refine aw_ti (nI_add (6 * t) 1) ?_
        refine va_sld hx hb hX hbl hbA hS (i := (nI ((6 * t) + 1))) (vp_in_nI (by omega) (by omega)) d_La_law_383 ?_
        refine aw_ti (y := nI j) (by rw [nI_clamp (by omega)]; exact hc0.symm) ?_
        obtain ⟨_, he153⟩ := zr_M0 hSh
        refine va_calli (va_runV (As := [.int (nI j)]) (rest := []) ⟨hx, hb, hml, hown, hG⟩ (k_Mo_stage1V l D g ad N0 zG zO zX zY zA zB zM zI zL zK zN zF zQ152 j hj) (aw_wV 1 hG gw_10_59 gw_10_56 gw_0_10 gw_10_57 gw_10_58 rfl rfl hd_Mo_stage ⟨Nat.le_of_ble_eq_true rfl, Nat.le_of_ble_eq_true rfl⟩) (ag_qV (va_recv hK hP rfl he153) hP hD hSh hU hS) rfl rfl hl.1 rfl (lv_room (Nat.le_of_ble_eq_true rfl)) d_La_law_384 ⟨by omega, by omega⟩) hS (fun _ _ h => h) (fun _ h => h) ?_
        clear hP hD hSh hS he153
        intro x154 u8 t8 H locs ht _ ex154 hB _ _ hS
        obtain ⟨L, hP, hD, hSh⟩ := hB
        rw [ht] at hP
        clear ht
        have ex154 := ex154.symm
        refine lv_istore hx hb d_La_law_387 hl (by decide) rfl (fun ls hl => ?_)
        have hl : lv_has ls 8 [(6, .int x154), (5, .int (nI 0)), (0, .ref b), (1, .ref (aw_r ad 0)), (2, .ref (aw_m ad 0)), (3, .ref (aw_o ad)), (4, .int (nI (6 * t)))] := hl
        refine lv_goto (tgt := 853) hx hb d_La_law_389 (by decide) ?_
        refine lv_iinc (k := 6) (v := nI (6 * t + 6)) hx hb d_La_law_853 hl rfl (aw_inc (6 * t) 6 6 (by decide +kernel)) (by decide) rfl (fun ls hl => ?_)
        have hl : lv_has ls 8 [(4, .int (nI (6 * t + 6))), (6, .int x154), (5, .int (nI 0)), (0, .ref b), (1, .ref (aw_r ad 0)), (2, .ref (aw_m ad 0)), (3, .ref (aw_o ad))] := hl
        refine lv_goto (tgt := 23) hx hb d_La_law_856 (by decide) ?_
        have hl := lv_sub hl (l' := [(0, .ref b), (1, .ref (aw_r ad 0)), (2, .ref (aw_m ad 0)), (3, .ref (aw_o ad)), (4, .int (nI (6 * t + 6)))]) [3, 4, 5, 6, 0] rfl
        refine W.widen (k := 85 + (t + 1)) (n := 1246 + 6 * (t + 1)) (by omega) (by omega) ?_
        exact ih (t + 1) zG zO zX zY zA zB zM zI zL zK zN (nI 0) zQ152 _ _ L ls (by omega) hP hD hSh hR hS (by first | exact hl | simpa [Nat.mul_add] using hl)
    · refine aw_ti (y := nI 5) (by rw [hs3]) ?_
      refine lv_tableIn (tgt := 392) (off := 352) hx hb d_La_law_40 (by decide +kernel) (by decide +kernel) (by decide +kernel) (by decide) ?_
      obtain ⟨c0, hc0⟩ : ∃ z : Int32, z = xs (6 * t + 1) := ⟨_, rfl⟩
      obtain ⟨s2, hs2⟩ : ∃ z : Int32, z = xs (6 * t + 2) := ⟨_, rfl⟩
      obtain ⟨s3, hs3⟩ : ∃ z : Int32, z = xs (6 * t + 3) := ⟨_, rfl⟩
      obtain ⟨s4, hs4⟩ : ∃ z : Int32, z = xs (6 * t + 4) := ⟨_, rfl⟩
      rcases aw_rng 4 (by decide) c0 with hc | ⟨j, hj, rfl⟩
      · refine lv_aload_n hx hb d_La_law_392 rfl (lv_at hl 1 rfl) ?_
        refine lv_aload_n hx hb d_La_law_393 rfl (lv_at hl 0 rfl) ?_
        refine lv_iload hx hb d_La_law_394 (lv_at hl 4 rfl) ?_
        refine lv_iconst (v := nI 1) hx hb d_La_law_396 (by decide +kernel) ?_
        refine lv_iadd hx hb d_La_law_397 ?_
        refine aw_ti (nI_add (6 * t) 1) ?_
        refine va_sld hx hb hX hbl hbA hS (i := (nI ((6 * t) + 1))) (vp_in_nI (by omega) (by omega)) d_La_law_398 ?_
        refine aw_ti (y := c0) (by rw [nI_clamp (by omega)]; exact hc0.symm) ?_
        refine lv_aload_n hx hb d_La_law_399 rfl (lv_at hl 0 rfl) ?_
        refine lv_iload hx hb d_La_law_400 (lv_at hl 4 rfl) ?_
        refine lv_iconst (v := nI 2) hx hb d_La_law_402 (by decide +kernel) ?_
        refine lv_iadd hx hb d_La_law_403 ?_
        refine aw_ti (nI_add (6 * t) 2) ?_
        refine va_sld hx hb hX hbl hbA hS (i := (nI ((6 * t) + 2))) (vp_in_nI (by omega) (by omega)) d_La_law_404 ?_
        refine aw_ti (y := s2) (by rw [nI_clamp (by omega)]; exact hs2.symm) ?_
        have hj155 : ∀ x156 : Int32, (if s2 = 0 then nI 0 else nI 1) = x156 → W p l e room_1 s m #[Value.ref b] below meth c H locs (85 + t) (1246 + 6 * t) (lw_Z below #[Value.ref b] s) (F0 m 413 ls [.int x156, .int c0, .ref (aw_r ad 0)]) := by
          intro x156 ebx156
          refine lv_aload_n hx hb d_La_law_413 rfl (lv_at hl 0 rfl) ?_
          refine lv_iload hx hb d_La_law_414 (lv_at hl 4 rfl) ?_
          refine lv_iconst (v := nI 3) hx hb d_La_law_416 (by decide +kernel) ?_
          refine lv_iadd hx hb d_La_law_417 ?_
          refine aw_ti (nI_add (6 * t) 3) ?_
          refine va_sld hx hb hX hbl hbA hS (i := (nI ((6 * t) + 3))) (vp_in_nI (by omega) (by omega)) d_La_law_418 ?_
          refine aw_ti (y := s3) (by rw [nI_clamp (by omega)]; exact hs3.symm) ?_
          refine lv_i2l hx hb d_La_law_419 rfl ?_
          refine ag_topl (fun y157 ey157 => ?_)
          refine lv_bipush (v := nI 32) hx hb d_La_law_420 (by decide +kernel) ?_
          refine lv_lshl hx hb d_La_law_422 rfl ?_
          refine ag_topl (fun y158 ey158 => ?_)
          refine lv_aload_n hx hb d_La_law_423 rfl (lv_at hl 0 rfl) ?_
          refine lv_iload hx hb d_La_law_424 (lv_at hl 4 rfl) ?_
          refine lv_iconst (v := nI 4) hx hb d_La_law_426 (by decide +kernel) ?_
          refine lv_iadd hx hb d_La_law_427 ?_
          refine aw_ti (nI_add (6 * t) 4) ?_
          refine va_sld hx hb hX hbl hbA hS (i := (nI ((6 * t) + 4))) (vp_in_nI (by omega) (by omega)) d_La_law_428 ?_
          refine aw_ti (y := s4) (by rw [nI_clamp (by omega)]; exact hs4.symm) ?_
          refine lv_i2l hx hb d_La_law_429 rfl ?_
          refine ag_topl (fun y159 ey159 => ?_)
          refine lv_ldc2 (v := 4294967295) hx hb hown (hG _ gw_13_3) d_La_law_430 ?_
          refine lv_land hx hb d_La_law_433 ?_
          refine ag_topl (fun y160 ey160 => ?_)
          refine lv_lor hx hb d_La_law_434 ?_
          refine ag_topl (fun y161 ey161 => ?_)
          refine lv_aload_n hx hb d_La_law_435 rfl (lv_at hl 3 rfl) ?_
          refine va_calli (vx_runSW (As := [.ref (aw_r ad 0), .int c0, .int x156, .long y161, .ref (aw_o ad)]) (rest := []) ⟨hx, hb, hml, hown, hG⟩ (k_La_blockXcV l hst D g ad N0 zG zO zX zY zA zB zM zI zL zK zN zF zQ c0 x156 y161 hc) (aw_wW 5 hG gw_5_55 gw_5_53 gw_0_0 gw_5_54 rfl rfl hd_La_block ⟨Nat.le_of_ble_eq_true rfl, Nat.le_of_ble_eq_true rfl⟩) (ag_qS hP hD hSh hU hS) rfl rfl hl.1 rfl (lv_room (Nat.le_of_ble_eq_true rfl)) d_La_law_436 ⟨by omega, by omega⟩) hS (fun _ _ h => h) (fun _ h => h) ?_
          clear hP hD hSh hS
          intro x162 u8 t8 H locs ht _ ex162 hB _ _ hS
          obtain ⟨L, hP, hD, hSh⟩ := hB
          rw [ht] at hP
          clear ht
          subst ex162
          refine lv_istore hx hb d_La_law_439 hl (by decide) rfl (fun ls hl => ?_)
          have hl : lv_has ls 8 [(5, .int (nI 1)), (0, .ref b), (1, .ref (aw_r ad 0)), (2, .ref (aw_m ad 0)), (3, .ref (aw_o ad)), (4, .int (nI (6 * t)))] := hl
          refine lv_aload_n hx hb d_La_law_441 rfl (lv_at hl 3 rfl) ?_
          refine lv_aload_n hx hb d_La_law_442 rfl (lv_at hl 1 rfl) ?_
          refine lv_iload hx hb d_La_law_443 (lv_at hl 5 rfl) ?_
          refine lv_iconst (v := nI 1) hx hb d_La_law_445 (by decide +kernel) ?_
          refine lv_iadd hx hb d_La_law_446 ?_
          refine aw_ti (nI_add (6 * t) 1) ?_
          refine va_sld hx hb hX hbl hbA hS (i := (nI ((6 * t) + 1))) (vp_in_nI (by omega) (by omega)) d_La_law_447 ?_
          refine aw_ti (y := c0) (by rw [nI_clamp (by omega)]; exact hc0.symm) ?_
          refine lv_aload_n hx hb d_La_law_448 rfl (lv_at hl 1 rfl) ?_
          refine lv_iload hx hb d_La_law_449 (lv_at hl 5 rfl) ?_
          refine lv_iconst (v := nI 2) hx hb d_La_law_451 (by decide +kernel) ?_
          refine lv_iadd hx hb d_La_law_452 ?_
          refine aw_ti (nI_add (6 * t) 2) ?_
          refine va_sld hx hb hX hbl hbA hS (i := (nI ((6 * t) + 2))) (vp_in_nI (by omega) (by omega)) d_La_law_453 ?_
          refine aw_ti (y := s2) (by rw [nI_clamp (by omega)]; exact hs2.symm) ?_
          have hj163 : ∀ x164 : Int32, (if s2 = 0 then nI 0 else nI 1) = x164 → W p l e room_1 s m #[Value.ref b] below meth c H locs ((85 + t) + 1) ((1246 + 6 * t) + 6) (lw_Z below #[Value.ref b] s) (F0 m 462 ls [.int x164, .int c0, .ref (aw_m ad 0)]) := by
            intro x164 ebx164
            refine lv_aload_n hx hb d_La_law_462 rfl (lv_at hl 1 rfl) ?_
            refine lv_iload hx hb d_La_law_463 (lv_at hl 5 rfl) ?_
            refine lv_iconst (v := nI 3) hx hb d_La_law_465 (by decide +kernel) ?_
            refine lv_iadd hx hb d_La_law_466 ?_
            refine aw_ti (nI_add (6 * t) 3) ?_
            refine va_sld hx hb hX hbl hbA hS (i := (nI ((6 * t) + 3))) (vp_in_nI (by omega) (by omega)) d_La_law_467 ?_
            refine aw_ti (y := s3) (by rw [nI_clamp (by omega)]; exact hs3.symm) ?_
            refine lv_i2l hx hb d_La_law_468 rfl ?_
            refine ag_topl (fun y165 ey165 => ?_)
            refine lv_bipush (v := nI 32) hx hb d_La_law_469 (by decide +kernel) ?_
            refine lv_lshl hx hb d_La_law_471 rfl ?_
            refine ag_topl (fun y166 ey166 => ?_)
            refine lv_aload_n hx hb d_La_law_472 rfl (lv_at hl 1 rfl) ?_
            refine lv_iload hx hb d_La_law_473 (lv_at hl 5 rfl) ?_
            refine lv_iconst (v := nI 4) hx hb d_La_law_475 (by decide +kernel) ?_
            refine lv_iadd hx hb d_La_law_476 ?_
            refine aw_ti (nI_add (6 * t) 4) ?_
            refine va_sld hx hb hX hbl hbA hS (i := (nI ((6 * t) + 4))) (vp_in_nI (by omega) (by omega)) d_La_law_477 ?_
            refine aw_ti (y := s4) (by rw [nI_clamp (by omega)]; exact hs4.symm) ?_
            refine lv_i2l hx hb d_La_law_478 rfl ?_
            refine ag_topl (fun y167 ey167 => ?_)
            refine lv_ldc2 (v := 4294967295) hx hb hown (hG _ gw_13_3) d_La_law_479 ?_
            refine lv_land hx hb d_La_law_482 ?_
            refine ag_topl (fun y168 ey168 => ?_)
            refine lv_lor hx hb d_La_law_483 ?_
            refine ag_topl (fun y169 ey169 => ?_)
            obtain ⟨_, he170⟩ := zr_M0 hSh
            refine va_calll (va_runV (As := [.int c0, .int x164, .long y169]) (rest := []) ⟨hx, hb, hml, hown, hG⟩ (k_Mo_blockXcV l D g ad N0 zG zO zX zY zA zB zM zI zL zK zN zF zQ c0 x164 y169 hc) (aw_wV 3 hG gw_11_3 gw_11_0 gw_0_10 gw_11_1 gw_11_2 rfl rfl hd_Mo_block ⟨Nat.le_of_ble_eq_true rfl, Nat.le_of_ble_eq_true rfl⟩) (ag_qV (va_recv hK hP rfl he170) hP hD hSh hU hS) rfl rfl hl.1 rfl (lv_room (Nat.le_of_ble_eq_true rfl)) d_La_law_484 ⟨by omega, by omega⟩) hS (fun _ _ h => h) (fun _ h => h) ?_
            clear hP hD hSh hS he170
            intro y171 u8 t8 H locs ht _ ey171 hB _ _ hS
            obtain ⟨L, hP, hD, hSh⟩ := hB
            rw [ht] at hP
            clear ht
            have ey171 := ey171.symm
            refine lv_lstore hx hb d_La_law_487 hl (by decide) rfl (fun ls hl => ?_)
            have hl : lv_has ls 8 [(6, .long y171), (5, .int (nI 1)), (0, .ref b), (1, .ref (aw_r ad 0)), (2, .ref (aw_m ad 0)), (3, .ref (aw_o ad)), (4, .int (nI (6 * t)))] := hl
            refine lv_aload_n hx hb d_La_law_489 rfl (lv_at hl 4 rfl) ?_
            obtain ⟨_, he172⟩ := zr_M0 hSh
            refine va_calli (va_runV (As := []) (rest := []) ⟨hx, hb, hml, hown, hG⟩ (k_Mo_thrownV l D g ad N0 zG zO zX zY zA zB zM zI zL zK zN (nI 1) zQ) (aw_wV 0 hG gw_10_27 gw_10_24 gw_0_10 gw_10_25 gw_10_26 rfl rfl hd_Mo_thrown ⟨Nat.le_of_ble_eq_true rfl, Nat.le_of_ble_eq_true rfl⟩) (ag_qV (va_recv hK hP rfl he172) hP hD hSh hU hS) rfl rfl hl.1 rfl (lv_room (Nat.le_of_ble_eq_true rfl)) d_La_law_490 ⟨by omega, by omega⟩) hS (fun _ _ h => h) (fun _ h => h) (fun x173 u8 t8 H locs ht _ ex173 hB _ _ hS => ?_)
            obtain ⟨L, hP, hD, hSh⟩ := hB
            rw [ht] at hP
            clear ht
            have ex173 : x173 = nI 1 := ex173
            subst ex173
            refine lv_iload hx hb d_La_law_493 (lv_at hl 1 rfl) ?_
            refine lv_icmp_eq (tgt := 500) hx hb d_La_law_495 (by decide) (fun _ => ?_) (fun h => absurd (by decide +kernel) h)
            refine lv_iload hx hb d_La_law_500 (lv_at hl 1 rfl) ?_
            refine lv_if_ne (tgt := 516) hx hb d_La_law_502 (by decide) (fun _ => ?_) (fun h => absurd h (by decide +kernel))
            refine lv_goto (tgt := 853) hx hb d_La_law_516 (by decide) ?_
            refine lv_iinc (k := 6) (v := nI (6 * t + 6)) hx hb d_La_law_853 hl rfl (aw_inc (6 * t) 6 6 (by decide +kernel)) (by decide) rfl (fun ls hl => ?_)
            have hl : lv_has ls 8 [(4, .int (nI (6 * t + 6))), (6, .long y171), (5, .int (nI 1)), (0, .ref b), (1, .ref (aw_r ad 0)), (2, .ref (aw_m ad 0)), (3, .ref (aw_o ad))] := hl
            refine lv_goto (tgt := 23) hx hb d_La_law_856 (by decide) ?_
            have hl := lv_sub hl (l' := [(0, .ref b), (1, .ref (aw_r ad 0)), (2, .ref (aw_m ad 0)), (3, .ref (aw_o ad)), (4, .int (nI (6 * t + 6)))]) [3, 4, 5, 6, 0] rfl
            refine W.widen (k := 85 + (t + 1)) (n := 1246 + 6 * (t + 1)) (by omega) (by omega) ?_
            exact ih (t + 1) zG zO zX zY zA zB zM zI zL zK zN (nI 1) zQ _ _ L ls (by omega) hP hD hSh hR hS (by first | exact hl | simpa [Nat.mul_add] using hl)
          refine lv_if_eq (tgt := 461) hx hb d_La_law_454 (by decide) (fun h9 => ?_) (fun h9 => ?_)
          · refine lv_iconst (v := nI 0) hx hb d_La_law_461 (by decide +kernel) ?_
            exact hj163 _ (if_pos h9)
          · refine lv_iconst (v := nI 1) hx hb d_La_law_457 (by decide +kernel) ?_
            refine lv_goto (tgt := 462) hx hb d_La_law_458 (by decide) ?_
            exact hj163 _ (if_neg h9)
        refine lv_if_eq (tgt := 412) hx hb d_La_law_405 (by decide) (fun h9 => ?_) (fun h9 => ?_)
        · refine lv_iconst (v := nI 0) hx hb d_La_law_412 (by decide +kernel) ?_
          exact hj155 _ (if_pos h9)
        · refine lv_iconst (v := nI 1) hx hb d_La_law_408 (by decide +kernel) ?_
          refine lv_goto (tgt := 413) hx hb d_La_law_409 (by decide) ?_
          exact hj155 _ (if_neg h9)
      · have hgj := hSh.2.2.2.2.1 j hj
        have hq1 : (zM j).1 = (zG j).1 := by rw [hR.1 j hj]
        have hq2 : (zM j).2 = (zG j).2 := by rw [hR.1 j hj]
        by_cases hs : 2 ≤ (zG j).1
        · obtain ⟨kc, hkc, hci, hco⟩ := hR.2.1 j hj (by omega)
          refine lv_aload_n hx hb d_La_law_392 rfl (lv_at hl 1 rfl) ?_
          refine lv_aload_n hx hb d_La_law_393 rfl (lv_at hl 0 rfl) ?_
          refine lv_iload hx hb d_La_law_394 (lv_at hl 4 rfl) ?_
          refine lv_iconst (v := nI 1) hx hb d_La_law_396 (by decide +kernel) ?_
          refine lv_iadd hx hb d_La_law_397 ?_
          refine aw_ti (nI_add (6 * t) 1) ?_
          refine va_sld hx hb hX hbl hbA hS (i := (nI ((6 * t) + 1))) (vp_in_nI (by omega) (by omega)) d_La_law_398 ?_
          refine aw_ti (y := nI j) (by rw [nI_clamp (by omega)]; exact hc0.symm) ?_
          refine lv_aload_n hx hb d_La_law_399 rfl (lv_at hl 0 rfl) ?_
          refine lv_iload hx hb d_La_law_400 (lv_at hl 4 rfl) ?_
          refine lv_iconst (v := nI 2) hx hb d_La_law_402 (by decide +kernel) ?_
          refine lv_iadd hx hb d_La_law_403 ?_
          refine aw_ti (nI_add (6 * t) 2) ?_
          refine va_sld hx hb hX hbl hbA hS (i := (nI ((6 * t) + 2))) (vp_in_nI (by omega) (by omega)) d_La_law_404 ?_
          refine aw_ti (y := s2) (by rw [nI_clamp (by omega)]; exact hs2.symm) ?_
          have hj174 : ∀ x175 : Int32, (if s2 = 0 then nI 0 else nI 1) = x175 → W p l e room_1 s m #[Value.ref b] below meth c H locs (85 + t) (1246 + 6 * t) (lw_Z below #[Value.ref b] s) (F0 m 413 ls [.int x175, .int (nI j), .ref (aw_r ad 0)]) := by
            intro x175 ebx175
            refine lv_aload_n hx hb d_La_law_413 rfl (lv_at hl 0 rfl) ?_
            refine lv_iload hx hb d_La_law_414 (lv_at hl 4 rfl) ?_
            refine lv_iconst (v := nI 3) hx hb d_La_law_416 (by decide +kernel) ?_
            refine lv_iadd hx hb d_La_law_417 ?_
            refine aw_ti (nI_add (6 * t) 3) ?_
            refine va_sld hx hb hX hbl hbA hS (i := (nI ((6 * t) + 3))) (vp_in_nI (by omega) (by omega)) d_La_law_418 ?_
            refine aw_ti (y := s3) (by rw [nI_clamp (by omega)]; exact hs3.symm) ?_
            refine lv_i2l hx hb d_La_law_419 rfl ?_
            refine ag_topl (fun y176 ey176 => ?_)
            refine lv_bipush (v := nI 32) hx hb d_La_law_420 (by decide +kernel) ?_
            refine lv_lshl hx hb d_La_law_422 rfl ?_
            refine ag_topl (fun y177 ey177 => ?_)
            refine lv_aload_n hx hb d_La_law_423 rfl (lv_at hl 0 rfl) ?_
            refine lv_iload hx hb d_La_law_424 (lv_at hl 4 rfl) ?_
            refine lv_iconst (v := nI 4) hx hb d_La_law_426 (by decide +kernel) ?_
            refine lv_iadd hx hb d_La_law_427 ?_
            refine aw_ti (nI_add (6 * t) 4) ?_
            refine va_sld hx hb hX hbl hbA hS (i := (nI ((6 * t) + 4))) (vp_in_nI (by omega) (by omega)) d_La_law_428 ?_
            refine aw_ti (y := s4) (by rw [nI_clamp (by omega)]; exact hs4.symm) ?_
            refine lv_i2l hx hb d_La_law_429 rfl ?_
            refine ag_topl (fun y178 ey178 => ?_)
            refine lv_ldc2 (v := 4294967295) hx hb hown (hG _ gw_13_3) d_La_law_430 ?_
            refine lv_land hx hb d_La_law_433 ?_
            refine ag_topl (fun y179 ey179 => ?_)
            refine lv_lor hx hb d_La_law_434 ?_
            refine ag_topl (fun y180 ey180 => ?_)
            refine lv_aload_n hx hb d_La_law_435 rfl (lv_at hl 3 rfl) ?_
            refine va_calli (vx_runSW (As := [.ref (aw_r ad 0), .int (nI j), .int x175, .long y180, .ref (aw_o ad)]) (rest := []) ⟨hx, hb, hml, hown, hG⟩ (k_La_block1V l hst D g ad N0 zG zO zX zY zA zB zM zI zL zK zN zF zQ j x175 y180 hj (by omega)) (aw_wW 5 hG gw_5_55 gw_5_53 gw_0_0 gw_5_54 rfl rfl hd_La_block ⟨Nat.le_of_ble_eq_true rfl, Nat.le_of_ble_eq_true rfl⟩) (ag_qS hP hD hSh hU hS) rfl rfl hl.1 rfl (lv_room (Nat.le_of_ble_eq_true rfl)) d_La_law_436 ⟨by omega, by omega⟩) hS (fun _ _ h => h) (fun _ h => h) ?_
            clear hP hD hSh hS
            intro x181 u8 t8 H locs ht _ ex181 hB _ _ hS
            obtain ⟨L, hP, hD, hSh⟩ := hB
            rw [ht] at hP
            clear ht
            subst ex181
            obtain ⟨zQ182, ezQ182⟩ : ∃ z : Int64, v_La_block1V_zQ zO zA j x175 y180 = z := ⟨_, rfl⟩
            rw [ezQ182] at hSh
            refine lv_istore hx hb d_La_law_439 hl (by decide) rfl (fun ls hl => ?_)
            have hl : lv_has ls 8 [(5, .int (nI 0)), (0, .ref b), (1, .ref (aw_r ad 0)), (2, .ref (aw_m ad 0)), (3, .ref (aw_o ad)), (4, .int (nI (6 * t)))] := hl
            refine lv_aload_n hx hb d_La_law_441 rfl (lv_at hl 3 rfl) ?_
            refine lv_aload_n hx hb d_La_law_442 rfl (lv_at hl 1 rfl) ?_
            refine lv_iload hx hb d_La_law_443 (lv_at hl 5 rfl) ?_
            refine lv_iconst (v := nI 1) hx hb d_La_law_445 (by decide +kernel) ?_
            refine lv_iadd hx hb d_La_law_446 ?_
            refine aw_ti (nI_add (6 * t) 1) ?_
            refine va_sld hx hb hX hbl hbA hS (i := (nI ((6 * t) + 1))) (vp_in_nI (by omega) (by omega)) d_La_law_447 ?_
            refine aw_ti (y := nI j) (by rw [nI_clamp (by omega)]; exact hc0.symm) ?_
            refine lv_aload_n hx hb d_La_law_448 rfl (lv_at hl 1 rfl) ?_
            refine lv_iload hx hb d_La_law_449 (lv_at hl 5 rfl) ?_
            refine lv_iconst (v := nI 2) hx hb d_La_law_451 (by decide +kernel) ?_
            refine lv_iadd hx hb d_La_law_452 ?_
            refine aw_ti (nI_add (6 * t) 2) ?_
            refine va_sld hx hb hX hbl hbA hS (i := (nI ((6 * t) + 2))) (vp_in_nI (by omega) (by omega)) d_La_law_453 ?_
            refine aw_ti (y := s2) (by rw [nI_clamp (by omega)]; exact hs2.symm) ?_
            have hj183 : ∀ x184 : Int32, (if s2 = 0 then nI 0 else nI 1) = x184 → W p l e room_1 s m #[Value.ref b] below meth c H locs ((85 + t) + 1) ((1246 + 6 * t) + 6) (lw_Z below #[Value.ref b] s) (F0 m 462 ls [.int x184, .int (nI j), .ref (aw_m ad 0)]) := by
              intro x184 ebx184
              refine lv_aload_n hx hb d_La_law_462 rfl (lv_at hl 1 rfl) ?_
              refine lv_iload hx hb d_La_law_463 (lv_at hl 5 rfl) ?_
              refine lv_iconst (v := nI 3) hx hb d_La_law_465 (by decide +kernel) ?_
              refine lv_iadd hx hb d_La_law_466 ?_
              refine aw_ti (nI_add (6 * t) 3) ?_
              refine va_sld hx hb hX hbl hbA hS (i := (nI ((6 * t) + 3))) (vp_in_nI (by omega) (by omega)) d_La_law_467 ?_
              refine aw_ti (y := s3) (by rw [nI_clamp (by omega)]; exact hs3.symm) ?_
              refine lv_i2l hx hb d_La_law_468 rfl ?_
              refine ag_topl (fun y185 ey185 => ?_)
              refine lv_bipush (v := nI 32) hx hb d_La_law_469 (by decide +kernel) ?_
              refine lv_lshl hx hb d_La_law_471 rfl ?_
              refine ag_topl (fun y186 ey186 => ?_)
              refine lv_aload_n hx hb d_La_law_472 rfl (lv_at hl 1 rfl) ?_
              refine lv_iload hx hb d_La_law_473 (lv_at hl 5 rfl) ?_
              refine lv_iconst (v := nI 4) hx hb d_La_law_475 (by decide +kernel) ?_
              refine lv_iadd hx hb d_La_law_476 ?_
              refine aw_ti (nI_add (6 * t) 4) ?_
              refine va_sld hx hb hX hbl hbA hS (i := (nI ((6 * t) + 4))) (vp_in_nI (by omega) (by omega)) d_La_law_477 ?_
              refine aw_ti (y := s4) (by rw [nI_clamp (by omega)]; exact hs4.symm) ?_
              refine lv_i2l hx hb d_La_law_478 rfl ?_
              refine ag_topl (fun y187 ey187 => ?_)
              refine lv_ldc2 (v := 4294967295) hx hb hown (hG _ gw_13_3) d_La_law_479 ?_
              refine lv_land hx hb d_La_law_482 ?_
              refine ag_topl (fun y188 ey188 => ?_)
              refine lv_lor hx hb d_La_law_483 ?_
              refine ag_topl (fun y189 ey189 => ?_)
              obtain ⟨_, he190⟩ := zr_M0 hSh
              refine va_calll (va_runV (As := [.int (nI j), .int x184, .long y189]) (rest := []) ⟨hx, hb, hml, hown, hG⟩ (k_Mo_block1V l D g ad N0 zG zO zX zY zA zB zM zI zL zK zN zF zQ182 j kc x184 y189 hj (by omega) hkc hci) (aw_wV 3 hG gw_11_3 gw_11_0 gw_0_10 gw_11_1 gw_11_2 rfl rfl hd_Mo_block ⟨Nat.le_of_ble_eq_true rfl, Nat.le_of_ble_eq_true rfl⟩) (ag_qV (va_recv hK hP rfl he190) hP hD hSh hU hS) rfl rfl hl.1 rfl (lv_room (Nat.le_of_ble_eq_true rfl)) d_La_law_484 ⟨by omega, by omega⟩) hS (fun _ _ h => h) (fun _ h => h) ?_
              clear hP hD hSh hS he190
              intro y191 u8 t8 H locs ht _ ey191 hB _ _ hS
              obtain ⟨L, hP, hD, hSh⟩ := hB
              rw [ht] at hP
              clear ht
              obtain ⟨zI192, ezI192⟩ : ∃ z : Nat → Nat → Int32, v_Mo_block1V_zI zI zL j kc x184 y189 = z := ⟨_, rfl⟩
              rw [ezI192] at hSh
              have ey191 := ey191.symm
              refine lv_lstore hx hb d_La_law_487 hl (by decide) rfl (fun ls hl => ?_)
              have hl : lv_has ls 8 [(6, .long y191), (5, .int (nI 0)), (0, .ref b), (1, .ref (aw_r ad 0)), (2, .ref (aw_m ad 0)), (3, .ref (aw_o ad)), (4, .int (nI (6 * t)))] := hl
              refine lv_aload_n hx hb d_La_law_489 rfl (lv_at hl 4 rfl) ?_
              obtain ⟨_, he193⟩ := zr_M0 hSh
              refine va_calli (va_runV (As := []) (rest := []) ⟨hx, hb, hml, hown, hG⟩ (k_Mo_thrownV l D g ad N0 zG zO zX zY zA zB zM zI192 zL (nI kc) (az_wn kc) (nI 0) zQ182) (aw_wV 0 hG gw_10_27 gw_10_24 gw_0_10 gw_10_25 gw_10_26 rfl rfl hd_Mo_thrown ⟨Nat.le_of_ble_eq_true rfl, Nat.le_of_ble_eq_true rfl⟩) (ag_qV (va_recv hK hP rfl he193) hP hD hSh hU hS) rfl rfl hl.1 rfl (lv_room (Nat.le_of_ble_eq_true rfl)) d_La_law_490 ⟨by omega, by omega⟩) hS (fun _ _ h => h) (fun _ h => h) (fun x194 u8 t8 H locs ht _ ex194 hB _ _ hS => ?_)
              obtain ⟨L, hP, hD, hSh⟩ := hB
              rw [ht] at hP
              clear ht
              have ex194 : x194 = nI 0 := ex194
              subst ex194
              refine lv_iload hx hb d_La_law_493 (lv_at hl 1 rfl) ?_
              refine lv_icmp_eq (tgt := 500) hx hb d_La_law_495 (by decide) (fun _ => ?_) (fun h => absurd (by decide +kernel) h)
              refine lv_iload hx hb d_La_law_500 (lv_at hl 1 rfl) ?_
              refine lv_if_ne (tgt := 516) hx hb d_La_law_502 (by decide) (fun h => absurd (by decide +kernel) h) (fun _ => ?_)
              refine lv_aload_n hx hb d_La_law_505 rfl (lv_at hl 5 rfl) ?_
              refine lv_iconst (v := nI 0) hx hb d_La_law_506 (by decide +kernel) ?_
              obtain ⟨f196, hc197, he195⟩ := zr_O0 hSh
              refine aw_lld hx hb hK hP 84 1 he195 rfl (k := 0) (by omega) (by decide) d_La_law_507 ?_
              clear he195
              refine aw_tl (y := zQ182) hc197 ?_
              refine lv_lload hx hb d_La_law_508 (lv_at hl 0 rfl) ?_
              refine W.lcmp hx hb d_La_law_510 ?_
              have hcmp198 : zQ182 = y191 := by
                subst ey191 ezI192 ey189 ey188 ey187 ey186 ey185 ebx184 ezQ182 ey180 ey179 ey178 ey177 ey176 ebx175
                exact q_block1 hR hj hs hkc hci hco
              refine aw_ti (y := nI 0) (by rw [hcmp198]; exact aw_cmps _) ?_
              refine lv_if_eq (tgt := 516) hx hb d_La_law_511 (by decide) (fun _ => ?_) (fun h => absurd (by decide +kernel) h)
              refine lv_goto (tgt := 853) hx hb d_La_law_516 (by decide) ?_
              refine lv_iinc (k := 6) (v := nI (6 * t + 6)) hx hb d_La_law_853 hl rfl (aw_inc (6 * t) 6 6 (by decide +kernel)) (by decide) rfl (fun ls hl => ?_)
              have hl : lv_has ls 8 [(4, .int (nI (6 * t + 6))), (6, .long y191), (5, .int (nI 0)), (0, .ref b), (1, .ref (aw_r ad 0)), (2, .ref (aw_m ad 0)), (3, .ref (aw_o ad))] := hl
              refine lv_goto (tgt := 23) hx hb d_La_law_856 (by decide) ?_
              have hl := lv_sub hl (l' := [(0, .ref b), (1, .ref (aw_r ad 0)), (2, .ref (aw_m ad 0)), (3, .ref (aw_o ad)), (4, .int (nI (6 * t + 6)))]) [3, 4, 5, 6, 0] rfl
              refine W.widen (k := 85 + (t + 1)) (n := 1246 + 6 * (t + 1)) (by omega) (by omega) ?_
              have hR : az_R zG zO zX zY zA zB zM zI192 zL := by
                subst ey191 ezI192 ey189 ey188 ey187 ey186 ey185 ebx184 ezQ182 ey180 ey179 ey178 ey177 ey176 ebx175
                exact r_block1 hR hj hs hkc hci hco
              exact ih (t + 1) zG zO zX zY zA zB zM zI192 zL (nI kc) (az_wn kc) (nI 0) zQ182 _ _ L ls (by omega) hP hD hSh hR hS (by first | exact hl | simpa [Nat.mul_add] using hl)
            refine lv_if_eq (tgt := 461) hx hb d_La_law_454 (by decide) (fun h9 => ?_) (fun h9 => ?_)
            · refine lv_iconst (v := nI 0) hx hb d_La_law_461 (by decide +kernel) ?_
              exact hj183 _ (if_pos h9)
            · refine lv_iconst (v := nI 1) hx hb d_La_law_457 (by decide +kernel) ?_
              refine lv_goto (tgt := 462) hx hb d_La_law_458 (by decide) ?_
              exact hj183 _ (if_neg h9)
          refine lv_if_eq (tgt := 412) hx hb d_La_law_405 (by decide) (fun h9 => ?_) (fun h9 => ?_)
          · refine lv_iconst (v := nI 0) hx hb d_La_law_412 (by decide +kernel) ?_
            exact hj174 _ (if_pos h9)
          · refine lv_iconst (v := nI 1) hx hb d_La_law_408 (by decide +kernel) ?_
            refine lv_goto (tgt := 413) hx hb d_La_law_409 (by decide) ?_
            exact hj174 _ (if_neg h9)
        · refine lv_aload_n hx hb d_La_law_392 rfl (lv_at hl 1 rfl) ?_
          refine lv_aload_n hx hb d_La_law_393 rfl (lv_at hl 0 rfl) ?_
          refine lv_iload hx hb d_La_law_394 (lv_at hl 4 rfl) ?_
          refine lv_iconst (v := nI 1) hx hb d_La_law_396 (by decide +kernel) ?_
          refine lv_iadd hx hb d_La_law_397 ?_
          refine aw_ti (nI_add (6 * t) 1) ?_
          refine va_sld hx hb hX hbl hbA hS (i := (nI ((6 * t) + 1))) (vp_in_nI (by omega) (by omega)) d_La_law_398 ?_
          refine aw_ti (y := nI j) (by rw [nI_clamp (by omega)]; exact hc0.symm) ?_
          refine lv_aload_n hx hb d_La_law_399 rfl (lv_at hl 0 rfl) ?_
          refine lv_iload hx hb d_La_law_400 (lv_at hl 4 rfl) ?_
          refine lv_iconst (v := nI 2) hx hb d_La_law_402 (by decide +kernel) ?_
          refine lv_iadd hx hb d_La_law_403 ?_
          refine aw_ti (nI_add (6 * t) 2) ?_
          refine va_sld hx hb hX hbl hbA hS (i := (nI ((6 * t) + 2))) (vp_in_nI (by omega) (by omega)) d_La_law_404 ?_
          refine aw_ti (y := s2) (by rw [nI_clamp (by omega)]; exact hs2.symm) ?_
          have hj199 : ∀ x200 : Int32, (if s2 = 0 then nI 0 else nI 1) = x200 → W p l e room_1 s m #[Value.ref b] below meth c H locs (85 + t) (1246 + 6 * t) (lw_Z below #[Value.ref b] s) (F0 m 413 ls [.int x200, .int (nI j), .ref (aw_r ad 0)]) := by
            intro x200 ebx200
            refine lv_aload_n hx hb d_La_law_413 rfl (lv_at hl 0 rfl) ?_
            refine lv_iload hx hb d_La_law_414 (lv_at hl 4 rfl) ?_
            refine lv_iconst (v := nI 3) hx hb d_La_law_416 (by decide +kernel) ?_
            refine lv_iadd hx hb d_La_law_417 ?_
            refine aw_ti (nI_add (6 * t) 3) ?_
            refine va_sld hx hb hX hbl hbA hS (i := (nI ((6 * t) + 3))) (vp_in_nI (by omega) (by omega)) d_La_law_418 ?_
            refine aw_ti (y := s3) (by rw [nI_clamp (by omega)]; exact hs3.symm) ?_
            refine lv_i2l hx hb d_La_law_419 rfl ?_
            refine ag_topl (fun y201 ey201 => ?_)
            refine lv_bipush (v := nI 32) hx hb d_La_law_420 (by decide +kernel) ?_
            refine lv_lshl hx hb d_La_law_422 rfl ?_
            refine ag_topl (fun y202 ey202 => ?_)
            refine lv_aload_n hx hb d_La_law_423 rfl (lv_at hl 0 rfl) ?_
            refine lv_iload hx hb d_La_law_424 (lv_at hl 4 rfl) ?_
            refine lv_iconst (v := nI 4) hx hb d_La_law_426 (by decide +kernel) ?_
            refine lv_iadd hx hb d_La_law_427 ?_
            refine aw_ti (nI_add (6 * t) 4) ?_
            refine va_sld hx hb hX hbl hbA hS (i := (nI ((6 * t) + 4))) (vp_in_nI (by omega) (by omega)) d_La_law_428 ?_
            refine aw_ti (y := s4) (by rw [nI_clamp (by omega)]; exact hs4.symm) ?_
            refine lv_i2l hx hb d_La_law_429 rfl ?_
            refine ag_topl (fun y203 ey203 => ?_)
            refine lv_ldc2 (v := 4294967295) hx hb hown (hG _ gw_13_3) d_La_law_430 ?_
            refine lv_land hx hb d_La_law_433 ?_
            refine ag_topl (fun y204 ey204 => ?_)
            refine lv_lor hx hb d_La_law_434 ?_
            refine ag_topl (fun y205 ey205 => ?_)
            refine lv_aload_n hx hb d_La_law_435 rfl (lv_at hl 3 rfl) ?_
            refine va_calli (vx_runSW (As := [.ref (aw_r ad 0), .int (nI j), .int x200, .long y205, .ref (aw_o ad)]) (rest := []) ⟨hx, hb, hml, hown, hG⟩ (k_La_blockXsV l hst D g ad N0 zG zO zX zY zA zB zM zI zL zK zN zF zQ j x200 y205 hj (by omega)) (aw_wW 5 hG gw_5_55 gw_5_53 gw_0_0 gw_5_54 rfl rfl hd_La_block ⟨Nat.le_of_ble_eq_true rfl, Nat.le_of_ble_eq_true rfl⟩) (ag_qS hP hD hSh hU hS) rfl rfl hl.1 rfl (lv_room (Nat.le_of_ble_eq_true rfl)) d_La_law_436 ⟨by omega, by omega⟩) hS (fun _ _ h => h) (fun _ h => h) ?_
            clear hP hD hSh hS
            intro x206 u8 t8 H locs ht _ ex206 hB _ _ hS
            obtain ⟨L, hP, hD, hSh⟩ := hB
            rw [ht] at hP
            clear ht
            subst ex206
            refine lv_istore hx hb d_La_law_439 hl (by decide) rfl (fun ls hl => ?_)
            have hl : lv_has ls 8 [(5, .int (nI 2)), (0, .ref b), (1, .ref (aw_r ad 0)), (2, .ref (aw_m ad 0)), (3, .ref (aw_o ad)), (4, .int (nI (6 * t)))] := hl
            refine lv_aload_n hx hb d_La_law_441 rfl (lv_at hl 3 rfl) ?_
            refine lv_aload_n hx hb d_La_law_442 rfl (lv_at hl 1 rfl) ?_
            refine lv_iload hx hb d_La_law_443 (lv_at hl 5 rfl) ?_
            refine lv_iconst (v := nI 1) hx hb d_La_law_445 (by decide +kernel) ?_
            refine lv_iadd hx hb d_La_law_446 ?_
            refine aw_ti (nI_add (6 * t) 1) ?_
            refine va_sld hx hb hX hbl hbA hS (i := (nI ((6 * t) + 1))) (vp_in_nI (by omega) (by omega)) d_La_law_447 ?_
            refine aw_ti (y := nI j) (by rw [nI_clamp (by omega)]; exact hc0.symm) ?_
            refine lv_aload_n hx hb d_La_law_448 rfl (lv_at hl 1 rfl) ?_
            refine lv_iload hx hb d_La_law_449 (lv_at hl 5 rfl) ?_
            refine lv_iconst (v := nI 2) hx hb d_La_law_451 (by decide +kernel) ?_
            refine lv_iadd hx hb d_La_law_452 ?_
            refine aw_ti (nI_add (6 * t) 2) ?_
            refine va_sld hx hb hX hbl hbA hS (i := (nI ((6 * t) + 2))) (vp_in_nI (by omega) (by omega)) d_La_law_453 ?_
            refine aw_ti (y := s2) (by rw [nI_clamp (by omega)]; exact hs2.symm) ?_
            have hj207 : ∀ x208 : Int32, (if s2 = 0 then nI 0 else nI 1) = x208 → W p l e room_1 s m #[Value.ref b] below meth c H locs ((85 + t) + 1) ((1246 + 6 * t) + 6) (lw_Z below #[Value.ref b] s) (F0 m 462 ls [.int x208, .int (nI j), .ref (aw_m ad 0)]) := by
              intro x208 ebx208
              refine lv_aload_n hx hb d_La_law_462 rfl (lv_at hl 1 rfl) ?_
              refine lv_iload hx hb d_La_law_463 (lv_at hl 5 rfl) ?_
              refine lv_iconst (v := nI 3) hx hb d_La_law_465 (by decide +kernel) ?_
              refine lv_iadd hx hb d_La_law_466 ?_
              refine aw_ti (nI_add (6 * t) 3) ?_
              refine va_sld hx hb hX hbl hbA hS (i := (nI ((6 * t) + 3))) (vp_in_nI (by omega) (by omega)) d_La_law_467 ?_
              refine aw_ti (y := s3) (by rw [nI_clamp (by omega)]; exact hs3.symm) ?_
              refine lv_i2l hx hb d_La_law_468 rfl ?_
              refine ag_topl (fun y209 ey209 => ?_)
              refine lv_bipush (v := nI 32) hx hb d_La_law_469 (by decide +kernel) ?_
              refine lv_lshl hx hb d_La_law_471 rfl ?_
              refine ag_topl (fun y210 ey210 => ?_)
              refine lv_aload_n hx hb d_La_law_472 rfl (lv_at hl 1 rfl) ?_
              refine lv_iload hx hb d_La_law_473 (lv_at hl 5 rfl) ?_
              refine lv_iconst (v := nI 4) hx hb d_La_law_475 (by decide +kernel) ?_
              refine lv_iadd hx hb d_La_law_476 ?_
              refine aw_ti (nI_add (6 * t) 4) ?_
              refine va_sld hx hb hX hbl hbA hS (i := (nI ((6 * t) + 4))) (vp_in_nI (by omega) (by omega)) d_La_law_477 ?_
              refine aw_ti (y := s4) (by rw [nI_clamp (by omega)]; exact hs4.symm) ?_
              refine lv_i2l hx hb d_La_law_478 rfl ?_
              refine ag_topl (fun y211 ey211 => ?_)
              refine lv_ldc2 (v := 4294967295) hx hb hown (hG _ gw_13_3) d_La_law_479 ?_
              refine lv_land hx hb d_La_law_482 ?_
              refine ag_topl (fun y212 ey212 => ?_)
              refine lv_lor hx hb d_La_law_483 ?_
              refine ag_topl (fun y213 ey213 => ?_)
              obtain ⟨_, he214⟩ := zr_M0 hSh
              refine va_calll (va_runV (As := [.int (nI j), .int x208, .long y213]) (rest := []) ⟨hx, hb, hml, hown, hG⟩ (k_Mo_blockXsV l D g ad N0 zG zO zX zY zA zB zM zI zL zK zN zF zQ j x208 y213 hj (by omega)) (aw_wV 3 hG gw_11_3 gw_11_0 gw_0_10 gw_11_1 gw_11_2 rfl rfl hd_Mo_block ⟨Nat.le_of_ble_eq_true rfl, Nat.le_of_ble_eq_true rfl⟩) (ag_qV (va_recv hK hP rfl he214) hP hD hSh hU hS) rfl rfl hl.1 rfl (lv_room (Nat.le_of_ble_eq_true rfl)) d_La_law_484 ⟨by omega, by omega⟩) hS (fun _ _ h => h) (fun _ h => h) ?_
              clear hP hD hSh hS he214
              intro y215 u8 t8 H locs ht _ ey215 hB _ _ hS
              obtain ⟨L, hP, hD, hSh⟩ := hB
              rw [ht] at hP
              clear ht
              have ey215 := ey215.symm
              refine lv_lstore hx hb d_La_law_487 hl (by decide) rfl (fun ls hl => ?_)
              have hl : lv_has ls 8 [(6, .long y215), (5, .int (nI 2)), (0, .ref b), (1, .ref (aw_r ad 0)), (2, .ref (aw_m ad 0)), (3, .ref (aw_o ad)), (4, .int (nI (6 * t)))] := hl
              refine lv_aload_n hx hb d_La_law_489 rfl (lv_at hl 4 rfl) ?_
              obtain ⟨_, he216⟩ := zr_M0 hSh
              refine va_calli (va_runV (As := []) (rest := []) ⟨hx, hb, hml, hown, hG⟩ (k_Mo_thrownV l D g ad N0 zG zO zX zY zA zB zM zI zL zK zN (nI 2) zQ) (aw_wV 0 hG gw_10_27 gw_10_24 gw_0_10 gw_10_25 gw_10_26 rfl rfl hd_Mo_thrown ⟨Nat.le_of_ble_eq_true rfl, Nat.le_of_ble_eq_true rfl⟩) (ag_qV (va_recv hK hP rfl he216) hP hD hSh hU hS) rfl rfl hl.1 rfl (lv_room (Nat.le_of_ble_eq_true rfl)) d_La_law_490 ⟨by omega, by omega⟩) hS (fun _ _ h => h) (fun _ h => h) (fun x217 u8 t8 H locs ht _ ex217 hB _ _ hS => ?_)
              obtain ⟨L, hP, hD, hSh⟩ := hB
              rw [ht] at hP
              clear ht
              have ex217 : x217 = nI 2 := ex217
              subst ex217
              refine lv_iload hx hb d_La_law_493 (lv_at hl 1 rfl) ?_
              refine lv_icmp_eq (tgt := 500) hx hb d_La_law_495 (by decide) (fun _ => ?_) (fun h => absurd (by decide +kernel) h)
              refine lv_iload hx hb d_La_law_500 (lv_at hl 1 rfl) ?_
              refine lv_if_ne (tgt := 516) hx hb d_La_law_502 (by decide) (fun _ => ?_) (fun h => absurd h (by decide +kernel))
              refine lv_goto (tgt := 853) hx hb d_La_law_516 (by decide) ?_
              refine lv_iinc (k := 6) (v := nI (6 * t + 6)) hx hb d_La_law_853 hl rfl (aw_inc (6 * t) 6 6 (by decide +kernel)) (by decide) rfl (fun ls hl => ?_)
              have hl : lv_has ls 8 [(4, .int (nI (6 * t + 6))), (6, .long y215), (5, .int (nI 2)), (0, .ref b), (1, .ref (aw_r ad 0)), (2, .ref (aw_m ad 0)), (3, .ref (aw_o ad))] := hl
              refine lv_goto (tgt := 23) hx hb d_La_law_856 (by decide) ?_
              have hl := lv_sub hl (l' := [(0, .ref b), (1, .ref (aw_r ad 0)), (2, .ref (aw_m ad 0)), (3, .ref (aw_o ad)), (4, .int (nI (6 * t + 6)))]) [3, 4, 5, 6, 0] rfl
              refine W.widen (k := 85 + (t + 1)) (n := 1246 + 6 * (t + 1)) (by omega) (by omega) ?_
              exact ih (t + 1) zG zO zX zY zA zB zM zI zL zK zN (nI 2) zQ _ _ L ls (by omega) hP hD hSh hR hS (by first | exact hl | simpa [Nat.mul_add] using hl)
            refine lv_if_eq (tgt := 461) hx hb d_La_law_454 (by decide) (fun h9 => ?_) (fun h9 => ?_)
            · refine lv_iconst (v := nI 0) hx hb d_La_law_461 (by decide +kernel) ?_
              exact hj207 _ (if_pos h9)
            · refine lv_iconst (v := nI 1) hx hb d_La_law_457 (by decide +kernel) ?_
              refine lv_goto (tgt := 462) hx hb d_La_law_458 (by decide) ?_
              exact hj207 _ (if_neg h9)
          refine lv_if_eq (tgt := 412) hx hb d_La_law_405 (by decide) (fun h9 => ?_) (fun h9 => ?_)
          · refine lv_iconst (v := nI 0) hx hb d_La_law_412 (by decide +kernel) ?_
            exact hj199 _ (if_pos h9)
          · refine lv_iconst (v := nI 1) hx hb d_La_law_408 (by decide +kernel) ?_
            refine lv_goto (tgt := 413) hx hb d_La_law_409 (by decide) ?_
            exact hj199 _ (if_neg h9)
    · refine aw_ti (y := nI 6) (by rw [hs3]) ?_
      refine lv_tableIn (tgt := 519) (off := 479) hx hb d_La_law_40 (by decide +kernel) (by decide +kernel) (by decide +kernel) (by decide) ?_
      obtain ⟨c0, hc0⟩ : ∃ z : Int32, z = xs (6 * t + 1) := ⟨_, rfl⟩
      obtain ⟨s2, hs2⟩ : ∃ z : Int32, z = xs (6 * t + 2) := ⟨_, rfl⟩
      rcases aw_rng 4 (by decide) c0 with hc | ⟨j, hj, rfl⟩
      · refine lv_aload_n hx hb d_La_law_519 rfl (lv_at hl 1 rfl) ?_
        refine lv_aload_n hx hb d_La_law_520 rfl (lv_at hl 0 rfl) ?_
        refine lv_iload hx hb d_La_law_521 (lv_at hl 4 rfl) ?_
        refine lv_iconst (v := nI 1) hx hb d_La_law_523 (by decide +kernel) ?_
        refine lv_iadd hx hb d_La_law_524 ?_
        refine aw_ti (nI_add (6 * t) 1) ?_
        refine va_sld hx hb hX hbl hbA hS (i := (nI ((6 * t) + 1))) (vp_in_nI (by omega) (by omega)) d_La_law_525 ?_
        refine aw_ti (y := c0) (by rw [nI_clamp (by omega)]; exact hc0.symm) ?_
        refine lv_aload_n hx hb d_La_law_526 rfl (lv_at hl 0 rfl) ?_
        refine lv_iload hx hb d_La_law_527 (lv_at hl 4 rfl) ?_
        refine lv_iconst (v := nI 2) hx hb d_La_law_529 (by decide +kernel) ?_
        refine lv_iadd hx hb d_La_law_530 ?_
        refine aw_ti (nI_add (6 * t) 2) ?_
        refine va_sld hx hb hX hbl hbA hS (i := (nI ((6 * t) + 2))) (vp_in_nI (by omega) (by omega)) d_La_law_531 ?_
        refine aw_ti (y := s2) (by rw [nI_clamp (by omega)]; exact hs2.symm) ?_
        refine lv_aload_n hx hb d_La_law_532 rfl (lv_at hl 3 rfl) ?_
        refine va_calli (vx_runSW (As := [.ref (aw_r ad 0), .int c0, .int s2, .ref (aw_o ad)]) (rest := []) ⟨hx, hb, hml, hown, hG⟩ (k_La_wordXcV l hst D g ad N0 zG zO zX zY zA zB zM zI zL zK zN zF zQ c0 s2 hc) (aw_wW 4 hG gw_7_9 gw_7_7 gw_0_0 gw_7_8 rfl rfl hd_La_word ⟨Nat.le_of_ble_eq_true rfl, Nat.le_of_ble_eq_true rfl⟩) (ag_qS hP hD hSh hU hS) rfl rfl hl.1 rfl (lv_room (Nat.le_of_ble_eq_true rfl)) d_La_law_533 ⟨by omega, by omega⟩) hS (fun _ _ h => h) (fun _ h => h) ?_
        clear hP hD hSh hS
        intro x218 u8 t8 H locs ht _ ex218 hB _ _ hS
        obtain ⟨L, hP, hD, hSh⟩ := hB
        rw [ht] at hP
        clear ht
        subst ex218
        refine lv_istore hx hb d_La_law_536 hl (by decide) rfl (fun ls hl => ?_)
        have hl : lv_has ls 8 [(5, .int (nI 1)), (0, .ref b), (1, .ref (aw_r ad 0)), (2, .ref (aw_m ad 0)), (3, .ref (aw_o ad)), (4, .int (nI (6 * t)))] := hl
        refine lv_aload_n hx hb d_La_law_538 rfl (lv_at hl 3 rfl) ?_
        refine lv_aload_n hx hb d_La_law_539 rfl (lv_at hl 1 rfl) ?_
        refine lv_iload hx hb d_La_law_540 (lv_at hl 5 rfl) ?_
        refine lv_iconst (v := nI 1) hx hb d_La_law_542 (by decide +kernel) ?_
        refine lv_iadd hx hb d_La_law_543 ?_
        refine aw_ti (nI_add (6 * t) 1) ?_
        refine va_sld hx hb hX hbl hbA hS (i := (nI ((6 * t) + 1))) (vp_in_nI (by omega) (by omega)) d_La_law_544 ?_
        refine aw_ti (y := c0) (by rw [nI_clamp (by omega)]; exact hc0.symm) ?_
        refine lv_aload_n hx hb d_La_law_545 rfl (lv_at hl 1 rfl) ?_
        refine lv_iload hx hb d_La_law_546 (lv_at hl 5 rfl) ?_
        refine lv_iconst (v := nI 2) hx hb d_La_law_548 (by decide +kernel) ?_
        refine lv_iadd hx hb d_La_law_549 ?_
        refine aw_ti (nI_add (6 * t) 2) ?_
        refine va_sld hx hb hX hbl hbA hS (i := (nI ((6 * t) + 2))) (vp_in_nI (by omega) (by omega)) d_La_law_550 ?_
        refine aw_ti (y := s2) (by rw [nI_clamp (by omega)]; exact hs2.symm) ?_
        obtain ⟨_, he219⟩ := zr_M0 hSh
        refine va_calli (va_runV (As := [.int c0, .int s2]) (rest := []) ⟨hx, hb, hml, hown, hG⟩ (k_Mo_wordXcV l D g ad N0 zG zO zX zY zA zB zM zI zL zK zN zF zQ c0 s2 hc) (aw_wV 2 hG gw_12_14 gw_12_11 gw_0_10 gw_12_12 gw_12_13 rfl rfl hd_Mo_word ⟨Nat.le_of_ble_eq_true rfl, Nat.le_of_ble_eq_true rfl⟩) (ag_qV (va_recv hK hP rfl he219) hP hD hSh hU hS) rfl rfl hl.1 rfl (lv_room (Nat.le_of_ble_eq_true rfl)) d_La_law_551 ⟨by omega, by omega⟩) hS (fun _ _ h => h) (fun _ h => h) ?_
        clear hP hD hSh hS he219
        intro x220 u8 t8 H locs ht _ ex220 hB _ _ hS
        obtain ⟨L, hP, hD, hSh⟩ := hB
        rw [ht] at hP
        clear ht
        have ex220 := ex220.symm
        refine lv_istore hx hb d_La_law_554 hl (by decide) rfl (fun ls hl => ?_)
        have hl : lv_has ls 8 [(6, .int x220), (5, .int (nI 1)), (0, .ref b), (1, .ref (aw_r ad 0)), (2, .ref (aw_m ad 0)), (3, .ref (aw_o ad)), (4, .int (nI (6 * t)))] := hl
        refine lv_goto (tgt := 853) hx hb d_La_law_556 (by decide) ?_
        refine lv_iinc (k := 6) (v := nI (6 * t + 6)) hx hb d_La_law_853 hl rfl (aw_inc (6 * t) 6 6 (by decide +kernel)) (by decide) rfl (fun ls hl => ?_)
        have hl : lv_has ls 8 [(4, .int (nI (6 * t + 6))), (6, .int x220), (5, .int (nI 1)), (0, .ref b), (1, .ref (aw_r ad 0)), (2, .ref (aw_m ad 0)), (3, .ref (aw_o ad))] := hl
        refine lv_goto (tgt := 23) hx hb d_La_law_856 (by decide) ?_
        have hl := lv_sub hl (l' := [(0, .ref b), (1, .ref (aw_r ad 0)), (2, .ref (aw_m ad 0)), (3, .ref (aw_o ad)), (4, .int (nI (6 * t + 6)))]) [3, 4, 5, 6, 0] rfl
        refine W.widen (k := 85 + (t + 1)) (n := 1246 + 6 * (t + 1)) (by omega) (by omega) ?_
        exact ih (t + 1) zG zO zX zY zA zB zM zI zL zK zN (nI 1) zQ _ _ L ls (by omega) hP hD hSh hR hS (by first | exact hl | simpa [Nat.mul_add] using hl)
      · have hgj := hSh.2.2.2.2.1 j hj
        have hq1 : (zM j).1 = (zG j).1 := by rw [hR.1 j hj]
        have hq2 : (zM j).2 = (zG j).2 := by rw [hR.1 j hj]
        by_cases hs : 2 ≤ (zG j).1
        · obtain ⟨kc, hkc, hci, hco⟩ := hR.2.1 j hj (by omega)
          refine lv_aload_n hx hb d_La_law_519 rfl (lv_at hl 1 rfl) ?_
          refine lv_aload_n hx hb d_La_law_520 rfl (lv_at hl 0 rfl) ?_
          refine lv_iload hx hb d_La_law_521 (lv_at hl 4 rfl) ?_
          refine lv_iconst (v := nI 1) hx hb d_La_law_523 (by decide +kernel) ?_
          refine lv_iadd hx hb d_La_law_524 ?_
          refine aw_ti (nI_add (6 * t) 1) ?_
          refine va_sld hx hb hX hbl hbA hS (i := (nI ((6 * t) + 1))) (vp_in_nI (by omega) (by omega)) d_La_law_525 ?_
          refine aw_ti (y := nI j) (by rw [nI_clamp (by omega)]; exact hc0.symm) ?_
          refine lv_aload_n hx hb d_La_law_526 rfl (lv_at hl 0 rfl) ?_
          refine lv_iload hx hb d_La_law_527 (lv_at hl 4 rfl) ?_
          refine lv_iconst (v := nI 2) hx hb d_La_law_529 (by decide +kernel) ?_
          refine lv_iadd hx hb d_La_law_530 ?_
          refine aw_ti (nI_add (6 * t) 2) ?_
          refine va_sld hx hb hX hbl hbA hS (i := (nI ((6 * t) + 2))) (vp_in_nI (by omega) (by omega)) d_La_law_531 ?_
          refine aw_ti (y := s2) (by rw [nI_clamp (by omega)]; exact hs2.symm) ?_
          refine lv_aload_n hx hb d_La_law_532 rfl (lv_at hl 3 rfl) ?_
          refine va_calli (vx_runSW (As := [.ref (aw_r ad 0), .int (nI j), .int s2, .ref (aw_o ad)]) (rest := []) ⟨hx, hb, hml, hown, hG⟩ (k_La_word1V l hst D g ad N0 zG zO zX zY zA zB zM zI zL zK zN zF zQ j s2 hj (by omega)) (aw_wW 4 hG gw_7_9 gw_7_7 gw_0_0 gw_7_8 rfl rfl hd_La_word ⟨Nat.le_of_ble_eq_true rfl, Nat.le_of_ble_eq_true rfl⟩) (ag_qS hP hD hSh hU hS) rfl rfl hl.1 rfl (lv_room (Nat.le_of_ble_eq_true rfl)) d_La_law_533 ⟨by omega, by omega⟩) hS (fun _ _ h => h) (fun _ h => h) ?_
          clear hP hD hSh hS
          intro x221 u8 t8 H locs ht _ ex221 hB _ _ hS
          obtain ⟨L, hP, hD, hSh⟩ := hB
          rw [ht] at hP
          clear ht
          subst ex221
          obtain ⟨zQ222, ezQ222⟩ : ∃ z : Int64, v_La_word1V_zQ zO zA j s2 = z := ⟨_, rfl⟩
          rw [ezQ222] at hSh
          refine lv_istore hx hb d_La_law_536 hl (by decide) rfl (fun ls hl => ?_)
          have hl : lv_has ls 8 [(5, .int (nI 0)), (0, .ref b), (1, .ref (aw_r ad 0)), (2, .ref (aw_m ad 0)), (3, .ref (aw_o ad)), (4, .int (nI (6 * t)))] := hl
          refine lv_aload_n hx hb d_La_law_538 rfl (lv_at hl 3 rfl) ?_
          refine lv_aload_n hx hb d_La_law_539 rfl (lv_at hl 1 rfl) ?_
          refine lv_iload hx hb d_La_law_540 (lv_at hl 5 rfl) ?_
          refine lv_iconst (v := nI 1) hx hb d_La_law_542 (by decide +kernel) ?_
          refine lv_iadd hx hb d_La_law_543 ?_
          refine aw_ti (nI_add (6 * t) 1) ?_
          refine va_sld hx hb hX hbl hbA hS (i := (nI ((6 * t) + 1))) (vp_in_nI (by omega) (by omega)) d_La_law_544 ?_
          refine aw_ti (y := nI j) (by rw [nI_clamp (by omega)]; exact hc0.symm) ?_
          refine lv_aload_n hx hb d_La_law_545 rfl (lv_at hl 1 rfl) ?_
          refine lv_iload hx hb d_La_law_546 (lv_at hl 5 rfl) ?_
          refine lv_iconst (v := nI 2) hx hb d_La_law_548 (by decide +kernel) ?_
          refine lv_iadd hx hb d_La_law_549 ?_
          refine aw_ti (nI_add (6 * t) 2) ?_
          refine va_sld hx hb hX hbl hbA hS (i := (nI ((6 * t) + 2))) (vp_in_nI (by omega) (by omega)) d_La_law_550 ?_
          refine aw_ti (y := s2) (by rw [nI_clamp (by omega)]; exact hs2.symm) ?_
          obtain ⟨_, he223⟩ := zr_M0 hSh
          refine va_calli (va_runV (As := [.int (nI j), .int s2]) (rest := []) ⟨hx, hb, hml, hown, hG⟩ (k_Mo_word1V l D g ad N0 zG zO zX zY zA zB zM zI zL zK zN zF zQ222 j kc s2 hj (by omega) hkc hci) (aw_wV 2 hG gw_12_14 gw_12_11 gw_0_10 gw_12_12 gw_12_13 rfl rfl hd_Mo_word ⟨Nat.le_of_ble_eq_true rfl, Nat.le_of_ble_eq_true rfl⟩) (ag_qV (va_recv hK hP rfl he223) hP hD hSh hU hS) rfl rfl hl.1 rfl (lv_room (Nat.le_of_ble_eq_true rfl)) d_La_law_551 ⟨by omega, by omega⟩) hS (fun _ _ h => h) (fun _ h => h) ?_
          clear hP hD hSh hS he223
          intro x224 u8 t8 H locs ht _ ex224 hB _ _ hS
          obtain ⟨L, hP, hD, hSh⟩ := hB
          rw [ht] at hP
          clear ht
          obtain ⟨zI225, ezI225⟩ : ∃ z : Nat → Nat → Int32, v_Mo_word1V_zI zI zL j kc s2 = z := ⟨_, rfl⟩
          rw [ezI225] at hSh
          have ex224 := ex224.symm
          refine lv_istore hx hb d_La_law_554 hl (by decide) rfl (fun ls hl => ?_)
          have hl : lv_has ls 8 [(6, .int x224), (5, .int (nI 0)), (0, .ref b), (1, .ref (aw_r ad 0)), (2, .ref (aw_m ad 0)), (3, .ref (aw_o ad)), (4, .int (nI (6 * t)))] := hl
          refine lv_goto (tgt := 853) hx hb d_La_law_556 (by decide) ?_
          refine lv_iinc (k := 6) (v := nI (6 * t + 6)) hx hb d_La_law_853 hl rfl (aw_inc (6 * t) 6 6 (by decide +kernel)) (by decide) rfl (fun ls hl => ?_)
          have hl : lv_has ls 8 [(4, .int (nI (6 * t + 6))), (6, .int x224), (5, .int (nI 0)), (0, .ref b), (1, .ref (aw_r ad 0)), (2, .ref (aw_m ad 0)), (3, .ref (aw_o ad))] := hl
          refine lv_goto (tgt := 23) hx hb d_La_law_856 (by decide) ?_
          have hl := lv_sub hl (l' := [(0, .ref b), (1, .ref (aw_r ad 0)), (2, .ref (aw_m ad 0)), (3, .ref (aw_o ad)), (4, .int (nI (6 * t + 6)))]) [3, 4, 5, 6, 0] rfl
          refine W.widen (k := 85 + (t + 1)) (n := 1246 + 6 * (t + 1)) (by omega) (by omega) ?_
          have hR : az_R zG zO zX zY zA zB zM zI225 zL := by
            subst ex224 ezI225 ezQ222
            exact r_word1 hR hj hs hkc hci hco
          exact ih (t + 1) zG zO zX zY zA zB zM zI225 zL (nI kc) (az_wn kc) (nI 0) zQ222 _ _ L ls (by omega) hP hD hSh hR hS (by first | exact hl | simpa [Nat.mul_add] using hl)
        · refine lv_aload_n hx hb d_La_law_519 rfl (lv_at hl 1 rfl) ?_
          refine lv_aload_n hx hb d_La_law_520 rfl (lv_at hl 0 rfl) ?_
          refine lv_iload hx hb d_La_law_521 (lv_at hl 4 rfl) ?_
          refine lv_iconst (v := nI 1) hx hb d_La_law_523 (by decide +kernel) ?_
          refine lv_iadd hx hb d_La_law_524 ?_
          refine aw_ti (nI_add (6 * t) 1) ?_
          refine va_sld hx hb hX hbl hbA hS (i := (nI ((6 * t) + 1))) (vp_in_nI (by omega) (by omega)) d_La_law_525 ?_
          refine aw_ti (y := nI j) (by rw [nI_clamp (by omega)]; exact hc0.symm) ?_
          refine lv_aload_n hx hb d_La_law_526 rfl (lv_at hl 0 rfl) ?_
          refine lv_iload hx hb d_La_law_527 (lv_at hl 4 rfl) ?_
          refine lv_iconst (v := nI 2) hx hb d_La_law_529 (by decide +kernel) ?_
          refine lv_iadd hx hb d_La_law_530 ?_
          refine aw_ti (nI_add (6 * t) 2) ?_
          refine va_sld hx hb hX hbl hbA hS (i := (nI ((6 * t) + 2))) (vp_in_nI (by omega) (by omega)) d_La_law_531 ?_
          refine aw_ti (y := s2) (by rw [nI_clamp (by omega)]; exact hs2.symm) ?_
          refine lv_aload_n hx hb d_La_law_532 rfl (lv_at hl 3 rfl) ?_
          refine va_calli (vx_runSW (As := [.ref (aw_r ad 0), .int (nI j), .int s2, .ref (aw_o ad)]) (rest := []) ⟨hx, hb, hml, hown, hG⟩ (k_La_wordXsV l hst D g ad N0 zG zO zX zY zA zB zM zI zL zK zN zF zQ j s2 hj (by omega)) (aw_wW 4 hG gw_7_9 gw_7_7 gw_0_0 gw_7_8 rfl rfl hd_La_word ⟨Nat.le_of_ble_eq_true rfl, Nat.le_of_ble_eq_true rfl⟩) (ag_qS hP hD hSh hU hS) rfl rfl hl.1 rfl (lv_room (Nat.le_of_ble_eq_true rfl)) d_La_law_533 ⟨by omega, by omega⟩) hS (fun _ _ h => h) (fun _ h => h) ?_
          clear hP hD hSh hS
          intro x226 u8 t8 H locs ht _ ex226 hB _ _ hS
          obtain ⟨L, hP, hD, hSh⟩ := hB
          rw [ht] at hP
          clear ht
          subst ex226
          refine lv_istore hx hb d_La_law_536 hl (by decide) rfl (fun ls hl => ?_)
          have hl : lv_has ls 8 [(5, .int (nI 2)), (0, .ref b), (1, .ref (aw_r ad 0)), (2, .ref (aw_m ad 0)), (3, .ref (aw_o ad)), (4, .int (nI (6 * t)))] := hl
          refine lv_aload_n hx hb d_La_law_538 rfl (lv_at hl 3 rfl) ?_
          refine lv_aload_n hx hb d_La_law_539 rfl (lv_at hl 1 rfl) ?_
          refine lv_iload hx hb d_La_law_540 (lv_at hl 5 rfl) ?_
          refine lv_iconst (v := nI 1) hx hb d_La_law_542 (by decide +kernel) ?_
          refine lv_iadd hx hb d_La_law_543 ?_
          refine aw_ti (nI_add (6 * t) 1) ?_
          refine va_sld hx hb hX hbl hbA hS (i := (nI ((6 * t) + 1))) (vp_in_nI (by omega) (by omega)) d_La_law_544 ?_
          refine aw_ti (y := nI j) (by rw [nI_clamp (by omega)]; exact hc0.symm) ?_
          refine lv_aload_n hx hb d_La_law_545 rfl (lv_at hl 1 rfl) ?_
          refine lv_iload hx hb d_La_law_546 (lv_at hl 5 rfl) ?_
          refine lv_iconst (v := nI 2) hx hb d_La_law_548 (by decide +kernel) ?_
          refine lv_iadd hx hb d_La_law_549 ?_
          refine aw_ti (nI_add (6 * t) 2) ?_
          refine va_sld hx hb hX hbl hbA hS (i := (nI ((6 * t) + 2))) (vp_in_nI (by omega) (by omega)) d_La_law_550 ?_
          refine aw_ti (y := s2) (by rw [nI_clamp (by omega)]; exact hs2.symm) ?_
          obtain ⟨_, he227⟩ := zr_M0 hSh
          refine va_calli (va_runV (As := [.int (nI j), .int s2]) (rest := []) ⟨hx, hb, hml, hown, hG⟩ (k_Mo_wordXsV l D g ad N0 zG zO zX zY zA zB zM zI zL zK zN zF zQ j s2 hj (by omega)) (aw_wV 2 hG gw_12_14 gw_12_11 gw_0_10 gw_12_12 gw_12_13 rfl rfl hd_Mo_word ⟨Nat.le_of_ble_eq_true rfl, Nat.le_of_ble_eq_true rfl⟩) (ag_qV (va_recv hK hP rfl he227) hP hD hSh hU hS) rfl rfl hl.1 rfl (lv_room (Nat.le_of_ble_eq_true rfl)) d_La_law_551 ⟨by omega, by omega⟩) hS (fun _ _ h => h) (fun _ h => h) ?_
          clear hP hD hSh hS he227
          intro x228 u8 t8 H locs ht _ ex228 hB _ _ hS
          obtain ⟨L, hP, hD, hSh⟩ := hB
          rw [ht] at hP
          clear ht
          have ex228 := ex228.symm
          refine lv_istore hx hb d_La_law_554 hl (by decide) rfl (fun ls hl => ?_)
          have hl : lv_has ls 8 [(6, .int x228), (5, .int (nI 2)), (0, .ref b), (1, .ref (aw_r ad 0)), (2, .ref (aw_m ad 0)), (3, .ref (aw_o ad)), (4, .int (nI (6 * t)))] := hl
          refine lv_goto (tgt := 853) hx hb d_La_law_556 (by decide) ?_
          refine lv_iinc (k := 6) (v := nI (6 * t + 6)) hx hb d_La_law_853 hl rfl (aw_inc (6 * t) 6 6 (by decide +kernel)) (by decide) rfl (fun ls hl => ?_)
          have hl : lv_has ls 8 [(4, .int (nI (6 * t + 6))), (6, .int x228), (5, .int (nI 2)), (0, .ref b), (1, .ref (aw_r ad 0)), (2, .ref (aw_m ad 0)), (3, .ref (aw_o ad))] := hl
          refine lv_goto (tgt := 23) hx hb d_La_law_856 (by decide) ?_
          have hl := lv_sub hl (l' := [(0, .ref b), (1, .ref (aw_r ad 0)), (2, .ref (aw_m ad 0)), (3, .ref (aw_o ad)), (4, .int (nI (6 * t + 6)))]) [3, 4, 5, 6, 0] rfl
          refine W.widen (k := 85 + (t + 1)) (n := 1246 + 6 * (t + 1)) (by omega) (by omega) ?_
          exact ih (t + 1) zG zO zX zY zA zB zM zI zL zK zN (nI 2) zQ _ _ L ls (by omega) hP hD hSh hR hS (by first | exact hl | simpa [Nat.mul_add] using hl)
    · refine aw_ti (y := nI 7) (by rw [hs3]) ?_
      refine lv_tableIn (tgt := 559) (off := 519) hx hb d_La_law_40 (by decide +kernel) (by decide +kernel) (by decide +kernel) (by decide) ?_
      obtain ⟨p0, hp0⟩ : ∃ z : Int32, z = xs (6 * t + 1) := ⟨_, rfl⟩
      obtain ⟨s2, hs2⟩ : ∃ z : Int32, z = xs (6 * t + 2) := ⟨_, rfl⟩
      rcases aw_rng 64 (by decide) p0 with hc | ⟨k, hk, rfl⟩
      · refine lv_aload_n hx hb d_La_law_559 rfl (lv_at hl 1 rfl) ?_
        refine lv_aload_n hx hb d_La_law_560 rfl (lv_at hl 0 rfl) ?_
        refine lv_iload hx hb d_La_law_561 (lv_at hl 4 rfl) ?_
        refine lv_iconst (v := nI 1) hx hb d_La_law_563 (by decide +kernel) ?_
        refine lv_iadd hx hb d_La_law_564 ?_
        refine aw_ti (nI_add (6 * t) 1) ?_
        refine va_sld hx hb hX hbl hbA hS (i := (nI ((6 * t) + 1))) (vp_in_nI (by omega) (by omega)) d_La_law_565 ?_
        refine aw_ti (y := p0) (by rw [nI_clamp (by omega)]; exact hp0.symm) ?_
        refine lv_aload_n hx hb d_La_law_566 rfl (lv_at hl 0 rfl) ?_
        refine lv_iload hx hb d_La_law_567 (lv_at hl 4 rfl) ?_
        refine lv_iconst (v := nI 2) hx hb d_La_law_569 (by decide +kernel) ?_
        refine lv_iadd hx hb d_La_law_570 ?_
        refine aw_ti (nI_add (6 * t) 2) ?_
        refine va_sld hx hb hX hbl hbA hS (i := (nI ((6 * t) + 2))) (vp_in_nI (by omega) (by omega)) d_La_law_571 ?_
        refine aw_ti (y := s2) (by rw [nI_clamp (by omega)]; exact hs2.symm) ?_
        refine va_calli (vx_runSW (As := [.ref (aw_r ad 0), .int p0, .int s2]) (rest := []) ⟨hx, hb, hml, hown, hG⟩ (k_La_putXV l hst D g ad N0 zG zO zX zY zA zB zM zI zL zK zN zF zQ p0 s2 hc) (aw_wW 3 hG gw_7_25 gw_7_23 gw_0_0 gw_7_24 rfl rfl hd_La_put ⟨Nat.le_of_ble_eq_true rfl, Nat.le_of_ble_eq_true rfl⟩) (ag_qS hP hD hSh hU hS) rfl rfl hl.1 rfl (lv_room (Nat.le_of_ble_eq_true rfl)) d_La_law_572 ⟨by omega, by omega⟩) hS (fun _ _ h => h) (fun _ h => h) ?_
        clear hP hD hSh hS
        intro x229 u8 t8 H locs ht _ ex229 hB _ _ hS
        obtain ⟨L, hP, hD, hSh⟩ := hB
        rw [ht] at hP
        clear ht
        subst ex229
        refine lv_istore hx hb d_La_law_575 hl (by decide) rfl (fun ls hl => ?_)
        have hl : lv_has ls 8 [(5, .int (nI 1)), (0, .ref b), (1, .ref (aw_r ad 0)), (2, .ref (aw_m ad 0)), (3, .ref (aw_o ad)), (4, .int (nI (6 * t)))] := hl
        refine lv_aload_n hx hb d_La_law_577 rfl (lv_at hl 3 rfl) ?_
        refine lv_aload_n hx hb d_La_law_578 rfl (lv_at hl 1 rfl) ?_
        refine lv_iload hx hb d_La_law_579 (lv_at hl 5 rfl) ?_
        refine lv_iconst (v := nI 1) hx hb d_La_law_581 (by decide +kernel) ?_
        refine lv_iadd hx hb d_La_law_582 ?_
        refine aw_ti (nI_add (6 * t) 1) ?_
        refine va_sld hx hb hX hbl hbA hS (i := (nI ((6 * t) + 1))) (vp_in_nI (by omega) (by omega)) d_La_law_583 ?_
        refine aw_ti (y := p0) (by rw [nI_clamp (by omega)]; exact hp0.symm) ?_
        refine lv_aload_n hx hb d_La_law_584 rfl (lv_at hl 1 rfl) ?_
        refine lv_iload hx hb d_La_law_585 (lv_at hl 5 rfl) ?_
        refine lv_iconst (v := nI 2) hx hb d_La_law_587 (by decide +kernel) ?_
        refine lv_iadd hx hb d_La_law_588 ?_
        refine aw_ti (nI_add (6 * t) 2) ?_
        refine va_sld hx hb hX hbl hbA hS (i := (nI ((6 * t) + 2))) (vp_in_nI (by omega) (by omega)) d_La_law_589 ?_
        refine aw_ti (y := s2) (by rw [nI_clamp (by omega)]; exact hs2.symm) ?_
        obtain ⟨_, he230⟩ := zr_M0 hSh
        refine va_callv (va_runV (As := [.int p0, .int s2]) (rest := []) ⟨hx, hb, hml, hown, hG⟩ (k_Mo_putXV l D g ad N0 zG zO zX zY zA zB zM zI zL zK zN zF zQ p0 s2 (aw_bnd 63 (by decide) hc)) (aw_wV 2 hG gw_12_18 gw_12_15 gw_0_10 gw_12_16 gw_12_17 rfl rfl hd_Mo_put ⟨Nat.le_of_ble_eq_true rfl, Nat.le_of_ble_eq_true rfl⟩) (ag_qV (va_recv hK hP rfl he230) hP hD hSh hU hS) rfl rfl hl.1 rfl (lv_room (Nat.le_of_ble_eq_true rfl)) d_La_law_590 ⟨by omega, by omega⟩) hS (fun _ _ h => h) (fun _ h => h) ?_
        clear hP hD hSh hS he230
        intro u8 t8 H locs ht _ _ hB _ _ hS
        obtain ⟨L, hP, hD, hSh⟩ := hB
        rw [ht] at hP
        clear ht
        refine lv_goto (tgt := 853) hx hb d_La_law_593 (by decide) ?_
        refine lv_iinc (k := 5) (v := nI (6 * t + 6)) hx hb d_La_law_853 hl rfl (aw_inc (6 * t) 6 6 (by decide +kernel)) (by decide) rfl (fun ls hl => ?_)
        have hl : lv_has ls 8 [(4, .int (nI (6 * t + 6))), (5, .int (nI 1)), (0, .ref b), (1, .ref (aw_r ad 0)), (2, .ref (aw_m ad 0)), (3, .ref (aw_o ad))] := hl
        refine lv_goto (tgt := 23) hx hb d_La_law_856 (by decide) ?_
        have hl := lv_sub hl (l' := [(0, .ref b), (1, .ref (aw_r ad 0)), (2, .ref (aw_m ad 0)), (3, .ref (aw_o ad)), (4, .int (nI (6 * t + 6)))]) [2, 3, 4, 5, 0] rfl
        refine W.widen (k := 85 + (t + 1)) (n := 1246 + 6 * (t + 1)) (by omega) (by omega) ?_
        exact ih (t + 1) zG zO zX zY zA zB zM zI zL zK zN (nI 1) zQ _ _ L ls (by omega) hP hD hSh hR hS (by first | exact hl | simpa [Nat.mul_add] using hl)
      · refine lv_aload_n hx hb d_La_law_559 rfl (lv_at hl 1 rfl) ?_
        refine lv_aload_n hx hb d_La_law_560 rfl (lv_at hl 0 rfl) ?_
        refine lv_iload hx hb d_La_law_561 (lv_at hl 4 rfl) ?_
        refine lv_iconst (v := nI 1) hx hb d_La_law_563 (by decide +kernel) ?_
        refine lv_iadd hx hb d_La_law_564 ?_
        refine aw_ti (nI_add (6 * t) 1) ?_
        refine va_sld hx hb hX hbl hbA hS (i := (nI ((6 * t) + 1))) (vp_in_nI (by omega) (by omega)) d_La_law_565 ?_
        refine aw_ti (y := nI k) (by rw [nI_clamp (by omega)]; exact hp0.symm) ?_
        refine lv_aload_n hx hb d_La_law_566 rfl (lv_at hl 0 rfl) ?_
        refine lv_iload hx hb d_La_law_567 (lv_at hl 4 rfl) ?_
        refine lv_iconst (v := nI 2) hx hb d_La_law_569 (by decide +kernel) ?_
        refine lv_iadd hx hb d_La_law_570 ?_
        refine aw_ti (nI_add (6 * t) 2) ?_
        refine va_sld hx hb hX hbl hbA hS (i := (nI ((6 * t) + 2))) (vp_in_nI (by omega) (by omega)) d_La_law_571 ?_
        refine aw_ti (y := s2) (by rw [nI_clamp (by omega)]; exact hs2.symm) ?_
        refine va_calli (vx_runSW (As := [.ref (aw_r ad 0), .int (nI k), .int s2]) (rest := []) ⟨hx, hb, hml, hown, hG⟩ (k_La_put1V l hst D g ad N0 zG zO zX zY zA zB zM zI zL zK zN zF zQ k s2 (by omega)) (aw_wW 3 hG gw_7_25 gw_7_23 gw_0_0 gw_7_24 rfl rfl hd_La_put ⟨Nat.le_of_ble_eq_true rfl, Nat.le_of_ble_eq_true rfl⟩) (ag_qS hP hD hSh hU hS) rfl rfl hl.1 rfl (lv_room (Nat.le_of_ble_eq_true rfl)) d_La_law_572 ⟨by omega, by omega⟩) hS (fun _ _ h => h) (fun _ h => h) ?_
        clear hP hD hSh hS
        intro x231 u8 t8 H locs ht _ ex231 hB _ _ hS
        obtain ⟨L, hP, hD, hSh⟩ := hB
        rw [ht] at hP
        clear ht
        subst ex231
        obtain ⟨zB232, ezB232⟩ : ∃ z : Nat → Int32, v_La_put1V_zB zB k s2 = z := ⟨_, rfl⟩
        rw [ezB232] at hSh
        refine lv_istore hx hb d_La_law_575 hl (by decide) rfl (fun ls hl => ?_)
        have hl : lv_has ls 8 [(5, .int (nI 0)), (0, .ref b), (1, .ref (aw_r ad 0)), (2, .ref (aw_m ad 0)), (3, .ref (aw_o ad)), (4, .int (nI (6 * t)))] := hl
        refine lv_aload_n hx hb d_La_law_577 rfl (lv_at hl 3 rfl) ?_
        refine lv_aload_n hx hb d_La_law_578 rfl (lv_at hl 1 rfl) ?_
        refine lv_iload hx hb d_La_law_579 (lv_at hl 5 rfl) ?_
        refine lv_iconst (v := nI 1) hx hb d_La_law_581 (by decide +kernel) ?_
        refine lv_iadd hx hb d_La_law_582 ?_
        refine aw_ti (nI_add (6 * t) 1) ?_
        refine va_sld hx hb hX hbl hbA hS (i := (nI ((6 * t) + 1))) (vp_in_nI (by omega) (by omega)) d_La_law_583 ?_
        refine aw_ti (y := nI k) (by rw [nI_clamp (by omega)]; exact hp0.symm) ?_
        refine lv_aload_n hx hb d_La_law_584 rfl (lv_at hl 1 rfl) ?_
        refine lv_iload hx hb d_La_law_585 (lv_at hl 5 rfl) ?_
        refine lv_iconst (v := nI 2) hx hb d_La_law_587 (by decide +kernel) ?_
        refine lv_iadd hx hb d_La_law_588 ?_
        refine aw_ti (nI_add (6 * t) 2) ?_
        refine va_sld hx hb hX hbl hbA hS (i := (nI ((6 * t) + 2))) (vp_in_nI (by omega) (by omega)) d_La_law_589 ?_
        refine aw_ti (y := s2) (by rw [nI_clamp (by omega)]; exact hs2.symm) ?_
        obtain ⟨_, he233⟩ := zr_M0 hSh
        refine va_callv (va_runV (As := [.int (nI k), .int s2]) (rest := []) ⟨hx, hb, hml, hown, hG⟩ (k_Mo_put1V l D g ad N0 zG zO zX zY zA zB232 zM zI zL zK zN zF zQ k s2 (by omega)) (aw_wV 2 hG gw_12_18 gw_12_15 gw_0_10 gw_12_16 gw_12_17 rfl rfl hd_Mo_put ⟨Nat.le_of_ble_eq_true rfl, Nat.le_of_ble_eq_true rfl⟩) (ag_qV (va_recv hK hP rfl he233) hP hD hSh hU hS) rfl rfl hl.1 rfl (lv_room (Nat.le_of_ble_eq_true rfl)) d_La_law_590 ⟨by omega, by omega⟩) hS (fun _ _ h => h) (fun _ h => h) ?_
        clear hP hD hSh hS he233
        intro u8 t8 H locs ht _ _ hB _ _ hS
        obtain ⟨L, hP, hD, hSh⟩ := hB
        rw [ht] at hP
        clear ht
        obtain ⟨zI234, ezI234⟩ : ∃ z : Nat → Nat → Int32, v_Mo_put1V_zI zI k s2 = z := ⟨_, rfl⟩
        rw [ezI234] at hSh
        refine lv_goto (tgt := 853) hx hb d_La_law_593 (by decide) ?_
        refine lv_iinc (k := 5) (v := nI (6 * t + 6)) hx hb d_La_law_853 hl rfl (aw_inc (6 * t) 6 6 (by decide +kernel)) (by decide) rfl (fun ls hl => ?_)
        have hl : lv_has ls 8 [(4, .int (nI (6 * t + 6))), (5, .int (nI 0)), (0, .ref b), (1, .ref (aw_r ad 0)), (2, .ref (aw_m ad 0)), (3, .ref (aw_o ad))] := hl
        refine lv_goto (tgt := 23) hx hb d_La_law_856 (by decide) ?_
        have hl := lv_sub hl (l' := [(0, .ref b), (1, .ref (aw_r ad 0)), (2, .ref (aw_m ad 0)), (3, .ref (aw_o ad)), (4, .int (nI (6 * t + 6)))]) [2, 3, 4, 5, 0] rfl
        refine W.widen (k := 85 + (t + 1)) (n := 1246 + 6 * (t + 1)) (by omega) (by omega) ?_
        have hR : az_R zG zO zX zY zA zB232 zM zI234 zL := by
          subst ezI234 ezB232
          exact r_put1 hR hk
        exact ih (t + 1) zG zO zX zY zA zB232 zM zI234 zL zK zN (nI 0) zQ _ _ L ls (by omega) hP hD hSh hR hS (by first | exact hl | simpa [Nat.mul_add] using hl)
    · refine aw_ti (y := nI 8) (by rw [hs3]) ?_
      refine lv_tableIn (tgt := 596) (off := 556) hx hb d_La_law_40 (by decide +kernel) (by decide +kernel) (by decide +kernel) (by decide) ?_
      obtain ⟨p0, hp0⟩ : ∃ z : Int32, z = xs (6 * t + 1) := ⟨_, rfl⟩
      rcases aw_rng 64 (by decide) p0 with hc | ⟨k, hk, rfl⟩
      · refine lv_aload_n hx hb d_La_law_596 rfl (lv_at hl 1 rfl) ?_
        refine lv_aload_n hx hb d_La_law_597 rfl (lv_at hl 0 rfl) ?_
        refine lv_iload hx hb d_La_law_598 (lv_at hl 4 rfl) ?_
        refine lv_iconst (v := nI 1) hx hb d_La_law_600 (by decide +kernel) ?_
        refine lv_iadd hx hb d_La_law_601 ?_
        refine aw_ti (nI_add (6 * t) 1) ?_
        refine va_sld hx hb hX hbl hbA hS (i := (nI ((6 * t) + 1))) (vp_in_nI (by omega) (by omega)) d_La_law_602 ?_
        refine aw_ti (y := p0) (by rw [nI_clamp (by omega)]; exact hp0.symm) ?_
        refine lv_aload_n hx hb d_La_law_603 rfl (lv_at hl 3 rfl) ?_
        refine va_calli (vx_runSW (As := [.ref (aw_r ad 0), .int p0, .ref (aw_o ad)]) (rest := []) ⟨hx, hb, hml, hown, hG⟩ (k_La_getXV l hst D g ad N0 zG zO zX zY zA zB zM zI zL zK zN zF zQ p0 hc) (aw_wW 3 hG gw_7_35 gw_7_33 gw_0_0 gw_7_34 rfl rfl hd_La_get ⟨Nat.le_of_ble_eq_true rfl, Nat.le_of_ble_eq_true rfl⟩) (ag_qS hP hD hSh hU hS) rfl rfl hl.1 rfl (lv_room (Nat.le_of_ble_eq_true rfl)) d_La_law_604 ⟨by omega, by omega⟩) hS (fun _ _ h => h) (fun _ h => h) ?_
        clear hP hD hSh hS
        intro x235 u8 t8 H locs ht _ ex235 hB _ _ hS
        obtain ⟨L, hP, hD, hSh⟩ := hB
        rw [ht] at hP
        clear ht
        subst ex235
        refine lv_istore hx hb d_La_law_607 hl (by decide) rfl (fun ls hl => ?_)
        have hl : lv_has ls 8 [(5, .int (nI 1)), (0, .ref b), (1, .ref (aw_r ad 0)), (2, .ref (aw_m ad 0)), (3, .ref (aw_o ad)), (4, .int (nI (6 * t)))] := hl
        refine lv_aload_n hx hb d_La_law_609 rfl (lv_at hl 3 rfl) ?_
        refine lv_aload_n hx hb d_La_law_610 rfl (lv_at hl 1 rfl) ?_
        refine lv_iload hx hb d_La_law_611 (lv_at hl 5 rfl) ?_
        refine lv_iconst (v := nI 1) hx hb d_La_law_613 (by decide +kernel) ?_
        refine lv_iadd hx hb d_La_law_614 ?_
        refine aw_ti (nI_add (6 * t) 1) ?_
        refine va_sld hx hb hX hbl hbA hS (i := (nI ((6 * t) + 1))) (vp_in_nI (by omega) (by omega)) d_La_law_615 ?_
        refine aw_ti (y := p0) (by rw [nI_clamp (by omega)]; exact hp0.symm) ?_
        obtain ⟨_, he236⟩ := zr_M0 hSh
        refine va_calli (va_runV (As := [.int p0]) (rest := []) ⟨hx, hb, hml, hown, hG⟩ (k_Mo_getXV l D g ad N0 zG zO zX zY zA zB zM zI zL zK zN zF zQ p0 (aw_bnd 63 (by decide) hc)) (aw_wV 1 hG gw_12_22 gw_12_19 gw_0_10 gw_12_20 gw_12_21 rfl rfl hd_Mo_get ⟨Nat.le_of_ble_eq_true rfl, Nat.le_of_ble_eq_true rfl⟩) (ag_qV (va_recv hK hP rfl he236) hP hD hSh hU hS) rfl rfl hl.1 rfl (lv_room (Nat.le_of_ble_eq_true rfl)) d_La_law_616 ⟨by omega, by omega⟩) hS (fun _ _ h => h) (fun _ h => h) ?_
        clear hP hD hSh hS he236
        intro x237 u8 t8 H locs ht _ ex237 hB _ _ hS
        obtain ⟨L, hP, hD, hSh⟩ := hB
        rw [ht] at hP
        clear ht
        have ex237 := ex237.symm
        refine lv_istore hx hb d_La_law_619 hl (by decide) rfl (fun ls hl => ?_)
        have hl : lv_has ls 8 [(6, .int x237), (5, .int (nI 1)), (0, .ref b), (1, .ref (aw_r ad 0)), (2, .ref (aw_m ad 0)), (3, .ref (aw_o ad)), (4, .int (nI (6 * t)))] := hl
        refine lv_goto (tgt := 853) hx hb d_La_law_621 (by decide) ?_
        refine lv_iinc (k := 6) (v := nI (6 * t + 6)) hx hb d_La_law_853 hl rfl (aw_inc (6 * t) 6 6 (by decide +kernel)) (by decide) rfl (fun ls hl => ?_)
        have hl : lv_has ls 8 [(4, .int (nI (6 * t + 6))), (6, .int x237), (5, .int (nI 1)), (0, .ref b), (1, .ref (aw_r ad 0)), (2, .ref (aw_m ad 0)), (3, .ref (aw_o ad))] := hl
        refine lv_goto (tgt := 23) hx hb d_La_law_856 (by decide) ?_
        have hl := lv_sub hl (l' := [(0, .ref b), (1, .ref (aw_r ad 0)), (2, .ref (aw_m ad 0)), (3, .ref (aw_o ad)), (4, .int (nI (6 * t + 6)))]) [3, 4, 5, 6, 0] rfl
        refine W.widen (k := 85 + (t + 1)) (n := 1246 + 6 * (t + 1)) (by omega) (by omega) ?_
        exact ih (t + 1) zG zO zX zY zA zB zM zI zL zK zN (nI 1) zQ _ _ L ls (by omega) hP hD hSh hR hS (by first | exact hl | simpa [Nat.mul_add] using hl)
      · refine lv_aload_n hx hb d_La_law_596 rfl (lv_at hl 1 rfl) ?_
        refine lv_aload_n hx hb d_La_law_597 rfl (lv_at hl 0 rfl) ?_
        refine lv_iload hx hb d_La_law_598 (lv_at hl 4 rfl) ?_
        refine lv_iconst (v := nI 1) hx hb d_La_law_600 (by decide +kernel) ?_
        refine lv_iadd hx hb d_La_law_601 ?_
        refine aw_ti (nI_add (6 * t) 1) ?_
        refine va_sld hx hb hX hbl hbA hS (i := (nI ((6 * t) + 1))) (vp_in_nI (by omega) (by omega)) d_La_law_602 ?_
        refine aw_ti (y := nI k) (by rw [nI_clamp (by omega)]; exact hp0.symm) ?_
        refine lv_aload_n hx hb d_La_law_603 rfl (lv_at hl 3 rfl) ?_
        refine va_calli (vx_runSW (As := [.ref (aw_r ad 0), .int (nI k), .ref (aw_o ad)]) (rest := []) ⟨hx, hb, hml, hown, hG⟩ (k_La_get1V l hst D g ad N0 zG zO zX zY zA zB zM zI zL zK zN zF zQ k (by omega)) (aw_wW 3 hG gw_7_35 gw_7_33 gw_0_0 gw_7_34 rfl rfl hd_La_get ⟨Nat.le_of_ble_eq_true rfl, Nat.le_of_ble_eq_true rfl⟩) (ag_qS hP hD hSh hU hS) rfl rfl hl.1 rfl (lv_room (Nat.le_of_ble_eq_true rfl)) d_La_law_604 ⟨by omega, by omega⟩) hS (fun _ _ h => h) (fun _ h => h) ?_
        clear hP hD hSh hS
        intro x238 u8 t8 H locs ht _ ex238 hB _ _ hS
        obtain ⟨L, hP, hD, hSh⟩ := hB
        rw [ht] at hP
        clear ht
        subst ex238
        obtain ⟨zQ239, ezQ239⟩ : ∃ z : Int64, v_La_get1V_zQ zB k = z := ⟨_, rfl⟩
        rw [ezQ239] at hSh
        refine lv_istore hx hb d_La_law_607 hl (by decide) rfl (fun ls hl => ?_)
        have hl : lv_has ls 8 [(5, .int (nI 0)), (0, .ref b), (1, .ref (aw_r ad 0)), (2, .ref (aw_m ad 0)), (3, .ref (aw_o ad)), (4, .int (nI (6 * t)))] := hl
        refine lv_aload_n hx hb d_La_law_609 rfl (lv_at hl 3 rfl) ?_
        refine lv_aload_n hx hb d_La_law_610 rfl (lv_at hl 1 rfl) ?_
        refine lv_iload hx hb d_La_law_611 (lv_at hl 5 rfl) ?_
        refine lv_iconst (v := nI 1) hx hb d_La_law_613 (by decide +kernel) ?_
        refine lv_iadd hx hb d_La_law_614 ?_
        refine aw_ti (nI_add (6 * t) 1) ?_
        refine va_sld hx hb hX hbl hbA hS (i := (nI ((6 * t) + 1))) (vp_in_nI (by omega) (by omega)) d_La_law_615 ?_
        refine aw_ti (y := nI k) (by rw [nI_clamp (by omega)]; exact hp0.symm) ?_
        obtain ⟨_, he240⟩ := zr_M0 hSh
        refine va_calli (va_runV (As := [.int (nI k)]) (rest := []) ⟨hx, hb, hml, hown, hG⟩ (k_Mo_get1V l D g ad N0 zG zO zX zY zA zB zM zI zL zK zN zF zQ239 k (by omega)) (aw_wV 1 hG gw_12_22 gw_12_19 gw_0_10 gw_12_20 gw_12_21 rfl rfl hd_Mo_get ⟨Nat.le_of_ble_eq_true rfl, Nat.le_of_ble_eq_true rfl⟩) (ag_qV (va_recv hK hP rfl he240) hP hD hSh hU hS) rfl rfl hl.1 rfl (lv_room (Nat.le_of_ble_eq_true rfl)) d_La_law_616 ⟨by omega, by omega⟩) hS (fun _ _ h => h) (fun _ h => h) ?_
        clear hP hD hSh hS he240
        intro x241 u8 t8 H locs ht _ ex241 hB _ _ hS
        obtain ⟨L, hP, hD, hSh⟩ := hB
        rw [ht] at hP
        clear ht
        have ex241 := ex241.symm
        refine lv_istore hx hb d_La_law_619 hl (by decide) rfl (fun ls hl => ?_)
        have hl : lv_has ls 8 [(6, .int x241), (5, .int (nI 0)), (0, .ref b), (1, .ref (aw_r ad 0)), (2, .ref (aw_m ad 0)), (3, .ref (aw_o ad)), (4, .int (nI (6 * t)))] := hl
        refine lv_goto (tgt := 853) hx hb d_La_law_621 (by decide) ?_
        refine lv_iinc (k := 6) (v := nI (6 * t + 6)) hx hb d_La_law_853 hl rfl (aw_inc (6 * t) 6 6 (by decide +kernel)) (by decide) rfl (fun ls hl => ?_)
        have hl : lv_has ls 8 [(4, .int (nI (6 * t + 6))), (6, .int x241), (5, .int (nI 0)), (0, .ref b), (1, .ref (aw_r ad 0)), (2, .ref (aw_m ad 0)), (3, .ref (aw_o ad))] := hl
        refine lv_goto (tgt := 23) hx hb d_La_law_856 (by decide) ?_
        have hl := lv_sub hl (l' := [(0, .ref b), (1, .ref (aw_r ad 0)), (2, .ref (aw_m ad 0)), (3, .ref (aw_o ad)), (4, .int (nI (6 * t + 6)))]) [3, 4, 5, 6, 0] rfl
        refine W.widen (k := 85 + (t + 1)) (n := 1246 + 6 * (t + 1)) (by omega) (by omega) ?_
        exact ih (t + 1) zG zO zX zY zA zB zM zI zL zK zN (nI 0) zQ239 _ _ L ls (by omega) hP hD hSh hR hS (by first | exact hl | simpa [Nat.mul_add] using hl)
    · refine aw_ti (y := nI 9) (by rw [hs3]) ?_
      refine lv_tableIn (tgt := 624) (off := 584) hx hb d_La_law_40 (by decide +kernel) (by decide +kernel) (by decide +kernel) (by decide) ?_
      obtain ⟨c0, hc0⟩ : ∃ z : Int32, z = xs (6 * t + 1) := ⟨_, rfl⟩
      obtain ⟨s2, hs2⟩ : ∃ z : Int32, z = xs (6 * t + 2) := ⟨_, rfl⟩
      obtain ⟨fr, hfr⟩ : ∃ z : Int32, z = xs (6 * t + 3) := ⟨_, rfl⟩
      obtain ⟨m0, hm0⟩ : ∃ z : Int32, z = xs (6 * t + 4) := ⟨_, rfl⟩
      rcases aw_rng 4 (by decide) c0 with hc | ⟨j, hj, rfl⟩
      · refine lv_aload_n hx hb d_La_law_624 rfl (lv_at hl 1 rfl) ?_
        refine lv_aload_n hx hb d_La_law_625 rfl (lv_at hl 0 rfl) ?_
        refine lv_iload hx hb d_La_law_626 (lv_at hl 4 rfl) ?_
        refine lv_iconst (v := nI 1) hx hb d_La_law_628 (by decide +kernel) ?_
        refine lv_iadd hx hb d_La_law_629 ?_
        refine aw_ti (nI_add (6 * t) 1) ?_
        refine va_sld hx hb hX hbl hbA hS (i := (nI ((6 * t) + 1))) (vp_in_nI (by omega) (by omega)) d_La_law_630 ?_
        refine aw_ti (y := c0) (by rw [nI_clamp (by omega)]; exact hc0.symm) ?_
        refine lv_aload_n hx hb d_La_law_631 rfl (lv_at hl 0 rfl) ?_
        refine lv_iload hx hb d_La_law_632 (lv_at hl 4 rfl) ?_
        refine lv_iconst (v := nI 2) hx hb d_La_law_634 (by decide +kernel) ?_
        refine lv_iadd hx hb d_La_law_635 ?_
        refine aw_ti (nI_add (6 * t) 2) ?_
        refine va_sld hx hb hX hbl hbA hS (i := (nI ((6 * t) + 2))) (vp_in_nI (by omega) (by omega)) d_La_law_636 ?_
        refine aw_ti (y := s2) (by rw [nI_clamp (by omega)]; exact hs2.symm) ?_
        have hj242 : ∀ x243 : Int32, (if s2 = 0 then nI 0 else nI 1) = x243 → W p l e room_1 s m #[Value.ref b] below meth c H locs (85 + t) (1246 + 6 * t) (lw_Z below #[Value.ref b] s) (F0 m 645 ls [.int x243, .int c0, .ref (aw_r ad 0)]) := by
          intro x243 ebx243
          refine lv_aload_n hx hb d_La_law_645 rfl (lv_at hl 0 rfl) ?_
          refine lv_iload hx hb d_La_law_646 (lv_at hl 4 rfl) ?_
          refine lv_iconst (v := nI 3) hx hb d_La_law_648 (by decide +kernel) ?_
          refine lv_iadd hx hb d_La_law_649 ?_
          refine aw_ti (nI_add (6 * t) 3) ?_
          refine va_sld hx hb hX hbl hbA hS (i := (nI ((6 * t) + 3))) (vp_in_nI (by omega) (by omega)) d_La_law_650 ?_
          refine aw_ti (y := fr) (by rw [nI_clamp (by omega)]; exact hfr.symm) ?_
          refine lv_aload_n hx hb d_La_law_651 rfl (lv_at hl 0 rfl) ?_
          refine lv_iload hx hb d_La_law_652 (lv_at hl 4 rfl) ?_
          refine lv_iconst (v := nI 4) hx hb d_La_law_654 (by decide +kernel) ?_
          refine lv_iadd hx hb d_La_law_655 ?_
          refine aw_ti (nI_add (6 * t) 4) ?_
          refine va_sld hx hb hX hbl hbA hS (i := (nI ((6 * t) + 4))) (vp_in_nI (by omega) (by omega)) d_La_law_656 ?_
          refine aw_ti (y := m0) (by rw [nI_clamp (by omega)]; exact hm0.symm) ?_
          refine lv_aload_n hx hb d_La_law_657 rfl (lv_at hl 3 rfl) ?_
          refine va_calli (vx_runSW (As := [.ref (aw_r ad 0), .int c0, .int x243, .int fr, .int m0, .ref (aw_o ad)]) (rest := []) ⟨hx, hb, hml, hown, hG⟩ (k_La_feedXcV l hst D g ad N0 zG zO zX zY zA zB zM zI zL zK zN zF zQ c0 x243 fr m0 hc) (aw_wW 6 hG gw_7_42 gw_7_40 gw_0_0 gw_7_41 rfl rfl hd_La_feed ⟨Nat.le_of_ble_eq_true rfl, Nat.le_of_ble_eq_true rfl⟩) (ag_qS hP hD hSh hU hS) rfl rfl hl.1 rfl (lv_room (Nat.le_of_ble_eq_true rfl)) d_La_law_658 ⟨by omega, by omega⟩) hS (fun _ _ h => h) (fun _ h => h) ?_
          clear hP hD hSh hS
          intro x244 u8 t8 H locs ht _ ex244 hB _ _ hS
          obtain ⟨L, hP, hD, hSh⟩ := hB
          rw [ht] at hP
          clear ht
          subst ex244
          refine lv_istore hx hb d_La_law_661 hl (by decide) rfl (fun ls hl => ?_)
          have hl : lv_has ls 8 [(5, .int (nI 1)), (0, .ref b), (1, .ref (aw_r ad 0)), (2, .ref (aw_m ad 0)), (3, .ref (aw_o ad)), (4, .int (nI (6 * t)))] := hl
          refine lv_aload_n hx hb d_La_law_663 rfl (lv_at hl 3 rfl) ?_
          refine lv_aload_n hx hb d_La_law_664 rfl (lv_at hl 1 rfl) ?_
          refine lv_iload hx hb d_La_law_665 (lv_at hl 5 rfl) ?_
          refine lv_iconst (v := nI 1) hx hb d_La_law_667 (by decide +kernel) ?_
          refine lv_iadd hx hb d_La_law_668 ?_
          refine aw_ti (nI_add (6 * t) 1) ?_
          refine va_sld hx hb hX hbl hbA hS (i := (nI ((6 * t) + 1))) (vp_in_nI (by omega) (by omega)) d_La_law_669 ?_
          refine aw_ti (y := c0) (by rw [nI_clamp (by omega)]; exact hc0.symm) ?_
          refine lv_aload_n hx hb d_La_law_670 rfl (lv_at hl 1 rfl) ?_
          refine lv_iload hx hb d_La_law_671 (lv_at hl 5 rfl) ?_
          refine lv_iconst (v := nI 2) hx hb d_La_law_673 (by decide +kernel) ?_
          refine lv_iadd hx hb d_La_law_674 ?_
          refine aw_ti (nI_add (6 * t) 2) ?_
          refine va_sld hx hb hX hbl hbA hS (i := (nI ((6 * t) + 2))) (vp_in_nI (by omega) (by omega)) d_La_law_675 ?_
          refine aw_ti (y := s2) (by rw [nI_clamp (by omega)]; exact hs2.symm) ?_
          have hj245 : ∀ x246 : Int32, (if s2 = 0 then nI 0 else nI 1) = x246 → W p l e room_1 s m #[Value.ref b] below meth c H locs ((85 + t) + 1) ((1246 + 6 * t) + 6) (lw_Z below #[Value.ref b] s) (F0 m 684 ls [.int x246, .int c0, .ref (aw_m ad 0)]) := by
            intro x246 ebx246
            refine lv_aload_n hx hb d_La_law_684 rfl (lv_at hl 1 rfl) ?_
            refine lv_iload hx hb d_La_law_685 (lv_at hl 5 rfl) ?_
            refine lv_iconst (v := nI 3) hx hb d_La_law_687 (by decide +kernel) ?_
            refine lv_iadd hx hb d_La_law_688 ?_
            refine aw_ti (nI_add (6 * t) 3) ?_
            refine va_sld hx hb hX hbl hbA hS (i := (nI ((6 * t) + 3))) (vp_in_nI (by omega) (by omega)) d_La_law_689 ?_
            refine aw_ti (y := fr) (by rw [nI_clamp (by omega)]; exact hfr.symm) ?_
            refine lv_aload_n hx hb d_La_law_690 rfl (lv_at hl 1 rfl) ?_
            refine lv_iload hx hb d_La_law_691 (lv_at hl 5 rfl) ?_
            refine lv_iconst (v := nI 4) hx hb d_La_law_693 (by decide +kernel) ?_
            refine lv_iadd hx hb d_La_law_694 ?_
            refine aw_ti (nI_add (6 * t) 4) ?_
            refine va_sld hx hb hX hbl hbA hS (i := (nI ((6 * t) + 4))) (vp_in_nI (by omega) (by omega)) d_La_law_695 ?_
            refine aw_ti (y := m0) (by rw [nI_clamp (by omega)]; exact hm0.symm) ?_
            obtain ⟨_, he247⟩ := zr_M0 hSh
            refine va_calli (va_runV (As := [.int c0, .int x246, .int fr, .int m0]) (rest := []) ⟨hx, hb, hml, hown, hG⟩ (k_Mo_feedXcV l D g ad N0 zG zO zX zY zA zB zM zI zL zK zN zF zQ c0 x246 fr m0 hc) (aw_wV 4 hG gw_12_26 gw_12_23 gw_0_10 gw_12_24 gw_12_25 rfl rfl hd_Mo_feed ⟨Nat.le_of_ble_eq_true rfl, Nat.le_of_ble_eq_true rfl⟩) (ag_qV (va_recv hK hP rfl he247) hP hD hSh hU hS) rfl rfl hl.1 rfl (lv_room (Nat.le_of_ble_eq_true rfl)) d_La_law_696 ⟨by omega, by omega⟩) hS (fun _ _ h => h) (fun _ h => h) ?_
            clear hP hD hSh hS he247
            intro x248 u8 t8 H locs ht _ ex248 hB _ _ hS
            obtain ⟨L, hP, hD, hSh⟩ := hB
            rw [ht] at hP
            clear ht
            have ex248 := ex248.symm
            refine lv_istore hx hb d_La_law_699 hl (by decide) rfl (fun ls hl => ?_)
            have hl : lv_has ls 8 [(6, .int x248), (5, .int (nI 1)), (0, .ref b), (1, .ref (aw_r ad 0)), (2, .ref (aw_m ad 0)), (3, .ref (aw_o ad)), (4, .int (nI (6 * t)))] := hl
            refine lv_goto (tgt := 853) hx hb d_La_law_701 (by decide) ?_
            refine lv_iinc (k := 6) (v := nI (6 * t + 6)) hx hb d_La_law_853 hl rfl (aw_inc (6 * t) 6 6 (by decide +kernel)) (by decide) rfl (fun ls hl => ?_)
            have hl : lv_has ls 8 [(4, .int (nI (6 * t + 6))), (6, .int x248), (5, .int (nI 1)), (0, .ref b), (1, .ref (aw_r ad 0)), (2, .ref (aw_m ad 0)), (3, .ref (aw_o ad))] := hl
            refine lv_goto (tgt := 23) hx hb d_La_law_856 (by decide) ?_
            have hl := lv_sub hl (l' := [(0, .ref b), (1, .ref (aw_r ad 0)), (2, .ref (aw_m ad 0)), (3, .ref (aw_o ad)), (4, .int (nI (6 * t + 6)))]) [3, 4, 5, 6, 0] rfl
            refine W.widen (k := 85 + (t + 1)) (n := 1246 + 6 * (t + 1)) (by omega) (by omega) ?_
            exact ih (t + 1) zG zO zX zY zA zB zM zI zL zK zN (nI 1) zQ _ _ L ls (by omega) hP hD hSh hR hS (by first | exact hl | simpa [Nat.mul_add] using hl)
          refine lv_if_eq (tgt := 683) hx hb d_La_law_676 (by decide) (fun h9 => ?_) (fun h9 => ?_)
          · refine lv_iconst (v := nI 0) hx hb d_La_law_683 (by decide +kernel) ?_
            exact hj245 _ (if_pos h9)
          · refine lv_iconst (v := nI 1) hx hb d_La_law_679 (by decide +kernel) ?_
            refine lv_goto (tgt := 684) hx hb d_La_law_680 (by decide) ?_
            exact hj245 _ (if_neg h9)
        refine lv_if_eq (tgt := 644) hx hb d_La_law_637 (by decide) (fun h9 => ?_) (fun h9 => ?_)
        · refine lv_iconst (v := nI 0) hx hb d_La_law_644 (by decide +kernel) ?_
          exact hj242 _ (if_pos h9)
        · refine lv_iconst (v := nI 1) hx hb d_La_law_640 (by decide +kernel) ?_
          refine lv_goto (tgt := 645) hx hb d_La_law_641 (by decide) ?_
          exact hj242 _ (if_neg h9)
      · have hgj := hSh.2.2.2.2.1 j hj
        have hq1 : (zM j).1 = (zG j).1 := by rw [hR.1 j hj]
        have hq2 : (zM j).2 = (zG j).2 := by rw [hR.1 j hj]
        rcases aw_buf fr m0 with hi | rfl | ⟨k, mm, rfl, rfl, h0, hk⟩
        · have hi2 := aw_bp hi
          refine lv_aload_n hx hb d_La_law_624 rfl (lv_at hl 1 rfl) ?_
          refine lv_aload_n hx hb d_La_law_625 rfl (lv_at hl 0 rfl) ?_
          refine lv_iload hx hb d_La_law_626 (lv_at hl 4 rfl) ?_
          refine lv_iconst (v := nI 1) hx hb d_La_law_628 (by decide +kernel) ?_
          refine lv_iadd hx hb d_La_law_629 ?_
          refine aw_ti (nI_add (6 * t) 1) ?_
          refine va_sld hx hb hX hbl hbA hS (i := (nI ((6 * t) + 1))) (vp_in_nI (by omega) (by omega)) d_La_law_630 ?_
          refine aw_ti (y := nI j) (by rw [nI_clamp (by omega)]; exact hc0.symm) ?_
          refine lv_aload_n hx hb d_La_law_631 rfl (lv_at hl 0 rfl) ?_
          refine lv_iload hx hb d_La_law_632 (lv_at hl 4 rfl) ?_
          refine lv_iconst (v := nI 2) hx hb d_La_law_634 (by decide +kernel) ?_
          refine lv_iadd hx hb d_La_law_635 ?_
          refine aw_ti (nI_add (6 * t) 2) ?_
          refine va_sld hx hb hX hbl hbA hS (i := (nI ((6 * t) + 2))) (vp_in_nI (by omega) (by omega)) d_La_law_636 ?_
          refine aw_ti (y := s2) (by rw [nI_clamp (by omega)]; exact hs2.symm) ?_
          have hj249 : ∀ x250 : Int32, (if s2 = 0 then nI 0 else nI 1) = x250 → W p l e room_1 s m #[Value.ref b] below meth c H locs (85 + t) (1246 + 6 * t) (lw_Z below #[Value.ref b] s) (F0 m 645 ls [.int x250, .int (nI j), .ref (aw_r ad 0)]) := by
            intro x250 ebx250
            refine lv_aload_n hx hb d_La_law_645 rfl (lv_at hl 0 rfl) ?_
            refine lv_iload hx hb d_La_law_646 (lv_at hl 4 rfl) ?_
            refine lv_iconst (v := nI 3) hx hb d_La_law_648 (by decide +kernel) ?_
            refine lv_iadd hx hb d_La_law_649 ?_
            refine aw_ti (nI_add (6 * t) 3) ?_
            refine va_sld hx hb hX hbl hbA hS (i := (nI ((6 * t) + 3))) (vp_in_nI (by omega) (by omega)) d_La_law_650 ?_
            refine aw_ti (y := fr) (by rw [nI_clamp (by omega)]; exact hfr.symm) ?_
            refine lv_aload_n hx hb d_La_law_651 rfl (lv_at hl 0 rfl) ?_
            refine lv_iload hx hb d_La_law_652 (lv_at hl 4 rfl) ?_
            refine lv_iconst (v := nI 4) hx hb d_La_law_654 (by decide +kernel) ?_
            refine lv_iadd hx hb d_La_law_655 ?_
            refine aw_ti (nI_add (6 * t) 4) ?_
            refine va_sld hx hb hX hbl hbA hS (i := (nI ((6 * t) + 4))) (vp_in_nI (by omega) (by omega)) d_La_law_656 ?_
            refine aw_ti (y := m0) (by rw [nI_clamp (by omega)]; exact hm0.symm) ?_
            refine lv_aload_n hx hb d_La_law_657 rfl (lv_at hl 3 rfl) ?_
            refine va_calli (vx_runSW (As := [.ref (aw_r ad 0), .int (nI j), .int x250, .int fr, .int m0, .ref (aw_o ad)]) (rest := []) ⟨hx, hb, hml, hown, hG⟩ (k_La_feedXbV l hst D g ad N0 zG zO zX zY zA zB zM zI zL zK zN zF zQ j x250 fr m0 hj hi) (aw_wW 6 hG gw_7_42 gw_7_40 gw_0_0 gw_7_41 rfl rfl hd_La_feed ⟨Nat.le_of_ble_eq_true rfl, Nat.le_of_ble_eq_true rfl⟩) (ag_qS hP hD hSh hU hS) rfl rfl hl.1 rfl (lv_room (Nat.le_of_ble_eq_true rfl)) d_La_law_658 ⟨by omega, by omega⟩) hS (fun _ _ h => h) (fun _ h => h) ?_
            clear hP hD hSh hS
            intro x251 u8 t8 H locs ht _ ex251 hB _ _ hS
            obtain ⟨L, hP, hD, hSh⟩ := hB
            rw [ht] at hP
            clear ht
            subst ex251
            refine lv_istore hx hb d_La_law_661 hl (by decide) rfl (fun ls hl => ?_)
            have hl : lv_has ls 8 [(5, .int (nI 1)), (0, .ref b), (1, .ref (aw_r ad 0)), (2, .ref (aw_m ad 0)), (3, .ref (aw_o ad)), (4, .int (nI (6 * t)))] := hl
            refine lv_aload_n hx hb d_La_law_663 rfl (lv_at hl 3 rfl) ?_
            refine lv_aload_n hx hb d_La_law_664 rfl (lv_at hl 1 rfl) ?_
            refine lv_iload hx hb d_La_law_665 (lv_at hl 5 rfl) ?_
            refine lv_iconst (v := nI 1) hx hb d_La_law_667 (by decide +kernel) ?_
            refine lv_iadd hx hb d_La_law_668 ?_
            refine aw_ti (nI_add (6 * t) 1) ?_
            refine va_sld hx hb hX hbl hbA hS (i := (nI ((6 * t) + 1))) (vp_in_nI (by omega) (by omega)) d_La_law_669 ?_
            refine aw_ti (y := nI j) (by rw [nI_clamp (by omega)]; exact hc0.symm) ?_
            refine lv_aload_n hx hb d_La_law_670 rfl (lv_at hl 1 rfl) ?_
            refine lv_iload hx hb d_La_law_671 (lv_at hl 5 rfl) ?_
            refine lv_iconst (v := nI 2) hx hb d_La_law_673 (by decide +kernel) ?_
            refine lv_iadd hx hb d_La_law_674 ?_
            refine aw_ti (nI_add (6 * t) 2) ?_
            refine va_sld hx hb hX hbl hbA hS (i := (nI ((6 * t) + 2))) (vp_in_nI (by omega) (by omega)) d_La_law_675 ?_
            refine aw_ti (y := s2) (by rw [nI_clamp (by omega)]; exact hs2.symm) ?_
            have hj252 : ∀ x253 : Int32, (if s2 = 0 then nI 0 else nI 1) = x253 → W p l e room_1 s m #[Value.ref b] below meth c H locs ((85 + t) + 1) ((1246 + 6 * t) + 6) (lw_Z below #[Value.ref b] s) (F0 m 684 ls [.int x253, .int (nI j), .ref (aw_m ad 0)]) := by
              intro x253 ebx253
              refine lv_aload_n hx hb d_La_law_684 rfl (lv_at hl 1 rfl) ?_
              refine lv_iload hx hb d_La_law_685 (lv_at hl 5 rfl) ?_
              refine lv_iconst (v := nI 3) hx hb d_La_law_687 (by decide +kernel) ?_
              refine lv_iadd hx hb d_La_law_688 ?_
              refine aw_ti (nI_add (6 * t) 3) ?_
              refine va_sld hx hb hX hbl hbA hS (i := (nI ((6 * t) + 3))) (vp_in_nI (by omega) (by omega)) d_La_law_689 ?_
              refine aw_ti (y := fr) (by rw [nI_clamp (by omega)]; exact hfr.symm) ?_
              refine lv_aload_n hx hb d_La_law_690 rfl (lv_at hl 1 rfl) ?_
              refine lv_iload hx hb d_La_law_691 (lv_at hl 5 rfl) ?_
              refine lv_iconst (v := nI 4) hx hb d_La_law_693 (by decide +kernel) ?_
              refine lv_iadd hx hb d_La_law_694 ?_
              refine aw_ti (nI_add (6 * t) 4) ?_
              refine va_sld hx hb hX hbl hbA hS (i := (nI ((6 * t) + 4))) (vp_in_nI (by omega) (by omega)) d_La_law_695 ?_
              refine aw_ti (y := m0) (by rw [nI_clamp (by omega)]; exact hm0.symm) ?_
              obtain ⟨_, he254⟩ := zr_M0 hSh
              refine va_calli (va_runV (As := [.int (nI j), .int x253, .int fr, .int m0]) (rest := []) ⟨hx, hb, hml, hown, hG⟩ (k_Mo_feedXbV l D g ad N0 zG zO zX zY zA zB zM zI zL zK zN zF zQ j x253 fr m0 hj hi2) (aw_wV 4 hG gw_12_26 gw_12_23 gw_0_10 gw_12_24 gw_12_25 rfl rfl hd_Mo_feed ⟨Nat.le_of_ble_eq_true rfl, Nat.le_of_ble_eq_true rfl⟩) (ag_qV (va_recv hK hP rfl he254) hP hD hSh hU hS) rfl rfl hl.1 rfl (lv_room (Nat.le_of_ble_eq_true rfl)) d_La_law_696 ⟨by omega, by omega⟩) hS (fun _ _ h => h) (fun _ h => h) ?_
              clear hP hD hSh hS he254
              intro x255 u8 t8 H locs ht _ ex255 hB _ _ hS
              obtain ⟨L, hP, hD, hSh⟩ := hB
              rw [ht] at hP
              clear ht
              have ex255 := ex255.symm
              refine lv_istore hx hb d_La_law_699 hl (by decide) rfl (fun ls hl => ?_)
              have hl : lv_has ls 8 [(6, .int x255), (5, .int (nI 1)), (0, .ref b), (1, .ref (aw_r ad 0)), (2, .ref (aw_m ad 0)), (3, .ref (aw_o ad)), (4, .int (nI (6 * t)))] := hl
              refine lv_goto (tgt := 853) hx hb d_La_law_701 (by decide) ?_
              refine lv_iinc (k := 6) (v := nI (6 * t + 6)) hx hb d_La_law_853 hl rfl (aw_inc (6 * t) 6 6 (by decide +kernel)) (by decide) rfl (fun ls hl => ?_)
              have hl : lv_has ls 8 [(4, .int (nI (6 * t + 6))), (6, .int x255), (5, .int (nI 1)), (0, .ref b), (1, .ref (aw_r ad 0)), (2, .ref (aw_m ad 0)), (3, .ref (aw_o ad))] := hl
              refine lv_goto (tgt := 23) hx hb d_La_law_856 (by decide) ?_
              have hl := lv_sub hl (l' := [(0, .ref b), (1, .ref (aw_r ad 0)), (2, .ref (aw_m ad 0)), (3, .ref (aw_o ad)), (4, .int (nI (6 * t + 6)))]) [3, 4, 5, 6, 0] rfl
              refine W.widen (k := 85 + (t + 1)) (n := 1246 + 6 * (t + 1)) (by omega) (by omega) ?_
              exact ih (t + 1) zG zO zX zY zA zB zM zI zL zK zN (nI 1) zQ _ _ L ls (by omega) hP hD hSh hR hS (by first | exact hl | simpa [Nat.mul_add] using hl)
            refine lv_if_eq (tgt := 683) hx hb d_La_law_676 (by decide) (fun h9 => ?_) (fun h9 => ?_)
            · refine lv_iconst (v := nI 0) hx hb d_La_law_683 (by decide +kernel) ?_
              exact hj252 _ (if_pos h9)
            · refine lv_iconst (v := nI 1) hx hb d_La_law_679 (by decide +kernel) ?_
              refine lv_goto (tgt := 684) hx hb d_La_law_680 (by decide) ?_
              exact hj252 _ (if_neg h9)
          refine lv_if_eq (tgt := 644) hx hb d_La_law_637 (by decide) (fun h9 => ?_) (fun h9 => ?_)
          · refine lv_iconst (v := nI 0) hx hb d_La_law_644 (by decide +kernel) ?_
            exact hj249 _ (if_pos h9)
          · refine lv_iconst (v := nI 1) hx hb d_La_law_640 (by decide +kernel) ?_
            refine lv_goto (tgt := 645) hx hb d_La_law_641 (by decide) ?_
            exact hj249 _ (if_neg h9)
        · rcases aw_p0f fr with hi | ⟨k, rfl, hk⟩
          · by_cases hs : (zG j).1 = 3
            · by_cases h5 : (zG j).2 = 5
              · refine lv_aload_n hx hb d_La_law_624 rfl (lv_at hl 1 rfl) ?_
                refine lv_aload_n hx hb d_La_law_625 rfl (lv_at hl 0 rfl) ?_
                refine lv_iload hx hb d_La_law_626 (lv_at hl 4 rfl) ?_
                refine lv_iconst (v := nI 1) hx hb d_La_law_628 (by decide +kernel) ?_
                refine lv_iadd hx hb d_La_law_629 ?_
                refine aw_ti (nI_add (6 * t) 1) ?_
                refine va_sld hx hb hX hbl hbA hS (i := (nI ((6 * t) + 1))) (vp_in_nI (by omega) (by omega)) d_La_law_630 ?_
                refine aw_ti (y := nI j) (by rw [nI_clamp (by omega)]; exact hc0.symm) ?_
                refine lv_aload_n hx hb d_La_law_631 rfl (lv_at hl 0 rfl) ?_
                refine lv_iload hx hb d_La_law_632 (lv_at hl 4 rfl) ?_
                refine lv_iconst (v := nI 2) hx hb d_La_law_634 (by decide +kernel) ?_
                refine lv_iadd hx hb d_La_law_635 ?_
                refine aw_ti (nI_add (6 * t) 2) ?_
                refine va_sld hx hb hX hbl hbA hS (i := (nI ((6 * t) + 2))) (vp_in_nI (by omega) (by omega)) d_La_law_636 ?_
                refine aw_ti (y := s2) (by rw [nI_clamp (by omega)]; exact hs2.symm) ?_
                have hj256 : ∀ x257 : Int32, (if s2 = 0 then nI 0 else nI 1) = x257 → W p l e room_1 s m #[Value.ref b] below meth c H locs (85 + t) (1246 + 6 * t) (lw_Z below #[Value.ref b] s) (F0 m 645 ls [.int x257, .int (nI j), .ref (aw_r ad 0)]) := by
                  intro x257 ebx257
                  refine lv_aload_n hx hb d_La_law_645 rfl (lv_at hl 0 rfl) ?_
                  refine lv_iload hx hb d_La_law_646 (lv_at hl 4 rfl) ?_
                  refine lv_iconst (v := nI 3) hx hb d_La_law_648 (by decide +kernel) ?_
                  refine lv_iadd hx hb d_La_law_649 ?_
                  refine aw_ti (nI_add (6 * t) 3) ?_
                  refine va_sld hx hb hX hbl hbA hS (i := (nI ((6 * t) + 3))) (vp_in_nI (by omega) (by omega)) d_La_law_650 ?_
                  refine aw_ti (y := fr) (by rw [nI_clamp (by omega)]; exact hfr.symm) ?_
                  refine lv_aload_n hx hb d_La_law_651 rfl (lv_at hl 0 rfl) ?_
                  refine lv_iload hx hb d_La_law_652 (lv_at hl 4 rfl) ?_
                  refine lv_iconst (v := nI 4) hx hb d_La_law_654 (by decide +kernel) ?_
                  refine lv_iadd hx hb d_La_law_655 ?_
                  refine aw_ti (nI_add (6 * t) 4) ?_
                  refine va_sld hx hb hX hbl hbA hS (i := (nI ((6 * t) + 4))) (vp_in_nI (by omega) (by omega)) d_La_law_656 ?_
                  refine aw_ti (y := nI 0) (by rw [nI_clamp (by omega)]; exact hm0.symm) ?_
                  refine lv_aload_n hx hb d_La_law_657 rfl (lv_at hl 3 rfl) ?_
                  refine va_calli (vx_runSW (As := [.ref (aw_r ad 0), .int (nI j), .int x257, .int fr, .int (nI 0), .ref (aw_o ad)]) (rest := []) ⟨hx, hb, hml, hown, hG⟩ (k_La_feedXs0V l hst D g ad N0 zG zO zX zY zA zB zM zI zL zK zN zF zQ j x257 fr hj (by omega)) (aw_wW 6 hG gw_7_42 gw_7_40 gw_0_0 gw_7_41 rfl rfl hd_La_feed ⟨Nat.le_of_ble_eq_true rfl, Nat.le_of_ble_eq_true rfl⟩) (ag_qS hP hD hSh hU hS) rfl rfl hl.1 rfl (lv_room (Nat.le_of_ble_eq_true rfl)) d_La_law_658 ⟨by omega, by omega⟩) hS (fun _ _ h => h) (fun _ h => h) ?_
                  clear hP hD hSh hS
                  intro x258 u8 t8 H locs ht _ ex258 hB _ _ hS
                  obtain ⟨L, hP, hD, hSh⟩ := hB
                  rw [ht] at hP
                  clear ht
                  subst ex258
                  refine lv_istore hx hb d_La_law_661 hl (by decide) rfl (fun ls hl => ?_)
                  have hl : lv_has ls 8 [(5, .int (nI 2)), (0, .ref b), (1, .ref (aw_r ad 0)), (2, .ref (aw_m ad 0)), (3, .ref (aw_o ad)), (4, .int (nI (6 * t)))] := hl
                  refine lv_aload_n hx hb d_La_law_663 rfl (lv_at hl 3 rfl) ?_
                  refine lv_aload_n hx hb d_La_law_664 rfl (lv_at hl 1 rfl) ?_
                  refine lv_iload hx hb d_La_law_665 (lv_at hl 5 rfl) ?_
                  refine lv_iconst (v := nI 1) hx hb d_La_law_667 (by decide +kernel) ?_
                  refine lv_iadd hx hb d_La_law_668 ?_
                  refine aw_ti (nI_add (6 * t) 1) ?_
                  refine va_sld hx hb hX hbl hbA hS (i := (nI ((6 * t) + 1))) (vp_in_nI (by omega) (by omega)) d_La_law_669 ?_
                  refine aw_ti (y := nI j) (by rw [nI_clamp (by omega)]; exact hc0.symm) ?_
                  refine lv_aload_n hx hb d_La_law_670 rfl (lv_at hl 1 rfl) ?_
                  refine lv_iload hx hb d_La_law_671 (lv_at hl 5 rfl) ?_
                  refine lv_iconst (v := nI 2) hx hb d_La_law_673 (by decide +kernel) ?_
                  refine lv_iadd hx hb d_La_law_674 ?_
                  refine aw_ti (nI_add (6 * t) 2) ?_
                  refine va_sld hx hb hX hbl hbA hS (i := (nI ((6 * t) + 2))) (vp_in_nI (by omega) (by omega)) d_La_law_675 ?_
                  refine aw_ti (y := s2) (by rw [nI_clamp (by omega)]; exact hs2.symm) ?_
                  have hj259 : ∀ x260 : Int32, (if s2 = 0 then nI 0 else nI 1) = x260 → W p l e room_1 s m #[Value.ref b] below meth c H locs ((85 + t) + 1) ((1246 + 6 * t) + 6) (lw_Z below #[Value.ref b] s) (F0 m 684 ls [.int x260, .int (nI j), .ref (aw_m ad 0)]) := by
                    intro x260 ebx260
                    refine lv_aload_n hx hb d_La_law_684 rfl (lv_at hl 1 rfl) ?_
                    refine lv_iload hx hb d_La_law_685 (lv_at hl 5 rfl) ?_
                    refine lv_iconst (v := nI 3) hx hb d_La_law_687 (by decide +kernel) ?_
                    refine lv_iadd hx hb d_La_law_688 ?_
                    refine aw_ti (nI_add (6 * t) 3) ?_
                    refine va_sld hx hb hX hbl hbA hS (i := (nI ((6 * t) + 3))) (vp_in_nI (by omega) (by omega)) d_La_law_689 ?_
                    refine aw_ti (y := fr) (by rw [nI_clamp (by omega)]; exact hfr.symm) ?_
                    refine lv_aload_n hx hb d_La_law_690 rfl (lv_at hl 1 rfl) ?_
                    refine lv_iload hx hb d_La_law_691 (lv_at hl 5 rfl) ?_
                    refine lv_iconst (v := nI 4) hx hb d_La_law_693 (by decide +kernel) ?_
                    refine lv_iadd hx hb d_La_law_694 ?_
                    refine aw_ti (nI_add (6 * t) 4) ?_
                    refine va_sld hx hb hX hbl hbA hS (i := (nI ((6 * t) + 4))) (vp_in_nI (by omega) (by omega)) d_La_law_695 ?_
                    refine aw_ti (y := nI 0) (by rw [nI_clamp (by omega)]; exact hm0.symm) ?_
                    obtain ⟨_, he261⟩ := zr_M0 hSh
                    refine va_calli (va_runV (As := [.int (nI j), .int x260, .int fr, .int (nI 0)]) (rest := []) ⟨hx, hb, hml, hown, hG⟩ (k_Mo_feedXbV l D g ad N0 zG zO zX zY zA zB zM zI zL zK zN zF zQ j x260 fr (nI 0) hj hi) (aw_wV 4 hG gw_12_26 gw_12_23 gw_0_10 gw_12_24 gw_12_25 rfl rfl hd_Mo_feed ⟨Nat.le_of_ble_eq_true rfl, Nat.le_of_ble_eq_true rfl⟩) (ag_qV (va_recv hK hP rfl he261) hP hD hSh hU hS) rfl rfl hl.1 rfl (lv_room (Nat.le_of_ble_eq_true rfl)) d_La_law_696 ⟨by omega, by omega⟩) hS (fun _ _ h => h) (fun _ h => h) ?_
                    clear hP hD hSh hS he261
                    intro x262 u8 t8 H locs ht _ ex262 hB _ _ hS
                    obtain ⟨L, hP, hD, hSh⟩ := hB
                    rw [ht] at hP
                    clear ht
                    have ex262 := ex262.symm
                    refine lv_istore hx hb d_La_law_699 hl (by decide) rfl (fun ls hl => ?_)
                    have hl : lv_has ls 8 [(6, .int x262), (5, .int (nI 2)), (0, .ref b), (1, .ref (aw_r ad 0)), (2, .ref (aw_m ad 0)), (3, .ref (aw_o ad)), (4, .int (nI (6 * t)))] := hl
                    refine lv_goto (tgt := 853) hx hb d_La_law_701 (by decide) ?_
                    refine lv_iinc (k := 6) (v := nI (6 * t + 6)) hx hb d_La_law_853 hl rfl (aw_inc (6 * t) 6 6 (by decide +kernel)) (by decide) rfl (fun ls hl => ?_)
                    have hl : lv_has ls 8 [(4, .int (nI (6 * t + 6))), (6, .int x262), (5, .int (nI 2)), (0, .ref b), (1, .ref (aw_r ad 0)), (2, .ref (aw_m ad 0)), (3, .ref (aw_o ad))] := hl
                    refine lv_goto (tgt := 23) hx hb d_La_law_856 (by decide) ?_
                    have hl := lv_sub hl (l' := [(0, .ref b), (1, .ref (aw_r ad 0)), (2, .ref (aw_m ad 0)), (3, .ref (aw_o ad)), (4, .int (nI (6 * t + 6)))]) [3, 4, 5, 6, 0] rfl
                    refine W.widen (k := 85 + (t + 1)) (n := 1246 + 6 * (t + 1)) (by omega) (by omega) ?_
                    exact ih (t + 1) zG zO zX zY zA zB zM zI zL zK zN (nI 1) zQ _ _ L ls (by omega) hP hD hSh hR hS (by first | exact hl | simpa [Nat.mul_add] using hl)
                  refine lv_if_eq (tgt := 683) hx hb d_La_law_676 (by decide) (fun h9 => ?_) (fun h9 => ?_)
                  · refine lv_iconst (v := nI 0) hx hb d_La_law_683 (by decide +kernel) ?_
                    exact hj259 _ (if_pos h9)
                  · refine lv_iconst (v := nI 1) hx hb d_La_law_679 (by decide +kernel) ?_
                    refine lv_goto (tgt := 684) hx hb d_La_law_680 (by decide) ?_
                    exact hj259 _ (if_neg h9)
                refine lv_if_eq (tgt := 644) hx hb d_La_law_637 (by decide) (fun h9 => ?_) (fun h9 => ?_)
                · refine lv_iconst (v := nI 0) hx hb d_La_law_644 (by decide +kernel) ?_
                  exact hj256 _ (if_pos h9)
                · refine lv_iconst (v := nI 1) hx hb d_La_law_640 (by decide +kernel) ?_
                  refine lv_goto (tgt := 645) hx hb d_La_law_641 (by decide) ?_
                  exact hj256 _ (if_neg h9)
              · by_cases hm : (zG j).2 ≤ 1
                · refine lv_aload_n hx hb d_La_law_624 rfl (lv_at hl 1 rfl) ?_
                  refine lv_aload_n hx hb d_La_law_625 rfl (lv_at hl 0 rfl) ?_
                  refine lv_iload hx hb d_La_law_626 (lv_at hl 4 rfl) ?_
                  refine lv_iconst (v := nI 1) hx hb d_La_law_628 (by decide +kernel) ?_
                  refine lv_iadd hx hb d_La_law_629 ?_
                  refine aw_ti (nI_add (6 * t) 1) ?_
                  refine va_sld hx hb hX hbl hbA hS (i := (nI ((6 * t) + 1))) (vp_in_nI (by omega) (by omega)) d_La_law_630 ?_
                  refine aw_ti (y := nI j) (by rw [nI_clamp (by omega)]; exact hc0.symm) ?_
                  refine lv_aload_n hx hb d_La_law_631 rfl (lv_at hl 0 rfl) ?_
                  refine lv_iload hx hb d_La_law_632 (lv_at hl 4 rfl) ?_
                  refine lv_iconst (v := nI 2) hx hb d_La_law_634 (by decide +kernel) ?_
                  refine lv_iadd hx hb d_La_law_635 ?_
                  refine aw_ti (nI_add (6 * t) 2) ?_
                  refine va_sld hx hb hX hbl hbA hS (i := (nI ((6 * t) + 2))) (vp_in_nI (by omega) (by omega)) d_La_law_636 ?_
                  refine aw_ti (y := s2) (by rw [nI_clamp (by omega)]; exact hs2.symm) ?_
                  have hj263 : ∀ x264 : Int32, (if s2 = 0 then nI 0 else nI 1) = x264 → W p l e room_1 s m #[Value.ref b] below meth c H locs (85 + t) (1246 + 6 * t) (lw_Z below #[Value.ref b] s) (F0 m 645 ls [.int x264, .int (nI j), .ref (aw_r ad 0)]) := by
                    intro x264 ebx264
                    refine lv_aload_n hx hb d_La_law_645 rfl (lv_at hl 0 rfl) ?_
                    refine lv_iload hx hb d_La_law_646 (lv_at hl 4 rfl) ?_
                    refine lv_iconst (v := nI 3) hx hb d_La_law_648 (by decide +kernel) ?_
                    refine lv_iadd hx hb d_La_law_649 ?_
                    refine aw_ti (nI_add (6 * t) 3) ?_
                    refine va_sld hx hb hX hbl hbA hS (i := (nI ((6 * t) + 3))) (vp_in_nI (by omega) (by omega)) d_La_law_650 ?_
                    refine aw_ti (y := fr) (by rw [nI_clamp (by omega)]; exact hfr.symm) ?_
                    refine lv_aload_n hx hb d_La_law_651 rfl (lv_at hl 0 rfl) ?_
                    refine lv_iload hx hb d_La_law_652 (lv_at hl 4 rfl) ?_
                    refine lv_iconst (v := nI 4) hx hb d_La_law_654 (by decide +kernel) ?_
                    refine lv_iadd hx hb d_La_law_655 ?_
                    refine aw_ti (nI_add (6 * t) 4) ?_
                    refine va_sld hx hb hX hbl hbA hS (i := (nI ((6 * t) + 4))) (vp_in_nI (by omega) (by omega)) d_La_law_656 ?_
                    refine aw_ti (y := nI 0) (by rw [nI_clamp (by omega)]; exact hm0.symm) ?_
                    refine lv_aload_n hx hb d_La_law_657 rfl (lv_at hl 3 rfl) ?_
                    refine va_calli (vx_runSW (As := [.ref (aw_r ad 0), .int (nI j), .int x264, .int fr, .int (nI 0), .ref (aw_o ad)]) (rest := []) ⟨hx, hb, hml, hown, hG⟩ (k_La_feed10bV l hst D g ad N0 zG zO zX zY zA zB zM zI zL zK zN zF zQ j x264 fr hj (by omega) (by omega)) (aw_wW 6 hG gw_7_42 gw_7_40 gw_0_0 gw_7_41 rfl rfl hd_La_feed ⟨Nat.le_of_ble_eq_true rfl, Nat.le_of_ble_eq_true rfl⟩) (ag_qS hP hD hSh hU hS) rfl rfl hl.1 rfl (lv_room (Nat.le_of_ble_eq_true rfl)) d_La_law_658 ⟨by omega, by omega⟩) hS (fun _ _ h => h) (fun _ h => h) ?_
                    clear hP hD hSh hS
                    intro x265 u8 t8 H locs ht _ ex265 hB _ _ hS
                    obtain ⟨L, hP, hD, hSh⟩ := hB
                    rw [ht] at hP
                    clear ht
                    subst ex265
                    obtain ⟨zY266, ezY266⟩ : ∃ z : Nat → Nat → Int32, v_La_feed10bV_zY zY j = z := ⟨_, rfl⟩
                    rw [ezY266] at hSh
                    obtain ⟨zQ267, ezQ267⟩ : ∃ z : Int64, v_La_feed10bV_zQ zY j = z := ⟨_, rfl⟩
                    rw [ezQ267] at hSh
                    refine lv_istore hx hb d_La_law_661 hl (by decide) rfl (fun ls hl => ?_)
                    have hl : lv_has ls 8 [(5, .int (nI 0)), (0, .ref b), (1, .ref (aw_r ad 0)), (2, .ref (aw_m ad 0)), (3, .ref (aw_o ad)), (4, .int (nI (6 * t)))] := hl
                    refine lv_aload_n hx hb d_La_law_663 rfl (lv_at hl 3 rfl) ?_
                    refine lv_aload_n hx hb d_La_law_664 rfl (lv_at hl 1 rfl) ?_
                    refine lv_iload hx hb d_La_law_665 (lv_at hl 5 rfl) ?_
                    refine lv_iconst (v := nI 1) hx hb d_La_law_667 (by decide +kernel) ?_
                    refine lv_iadd hx hb d_La_law_668 ?_
                    refine aw_ti (nI_add (6 * t) 1) ?_
                    refine va_sld hx hb hX hbl hbA hS (i := (nI ((6 * t) + 1))) (vp_in_nI (by omega) (by omega)) d_La_law_669 ?_
                    refine aw_ti (y := nI j) (by rw [nI_clamp (by omega)]; exact hc0.symm) ?_
                    refine lv_aload_n hx hb d_La_law_670 rfl (lv_at hl 1 rfl) ?_
                    refine lv_iload hx hb d_La_law_671 (lv_at hl 5 rfl) ?_
                    refine lv_iconst (v := nI 2) hx hb d_La_law_673 (by decide +kernel) ?_
                    refine lv_iadd hx hb d_La_law_674 ?_
                    refine aw_ti (nI_add (6 * t) 2) ?_
                    refine va_sld hx hb hX hbl hbA hS (i := (nI ((6 * t) + 2))) (vp_in_nI (by omega) (by omega)) d_La_law_675 ?_
                    refine aw_ti (y := s2) (by rw [nI_clamp (by omega)]; exact hs2.symm) ?_
                    have hj268 : ∀ x269 : Int32, (if s2 = 0 then nI 0 else nI 1) = x269 → W p l e room_1 s m #[Value.ref b] below meth c H locs ((85 + t) + 1) ((1246 + 6 * t) + 6) (lw_Z below #[Value.ref b] s) (F0 m 684 ls [.int x269, .int (nI j), .ref (aw_m ad 0)]) := by
                      intro x269 ebx269
                      refine lv_aload_n hx hb d_La_law_684 rfl (lv_at hl 1 rfl) ?_
                      refine lv_iload hx hb d_La_law_685 (lv_at hl 5 rfl) ?_
                      refine lv_iconst (v := nI 3) hx hb d_La_law_687 (by decide +kernel) ?_
                      refine lv_iadd hx hb d_La_law_688 ?_
                      refine aw_ti (nI_add (6 * t) 3) ?_
                      refine va_sld hx hb hX hbl hbA hS (i := (nI ((6 * t) + 3))) (vp_in_nI (by omega) (by omega)) d_La_law_689 ?_
                      refine aw_ti (y := fr) (by rw [nI_clamp (by omega)]; exact hfr.symm) ?_
                      refine lv_aload_n hx hb d_La_law_690 rfl (lv_at hl 1 rfl) ?_
                      refine lv_iload hx hb d_La_law_691 (lv_at hl 5 rfl) ?_
                      refine lv_iconst (v := nI 4) hx hb d_La_law_693 (by decide +kernel) ?_
                      refine lv_iadd hx hb d_La_law_694 ?_
                      refine aw_ti (nI_add (6 * t) 4) ?_
                      refine va_sld hx hb hX hbl hbA hS (i := (nI ((6 * t) + 4))) (vp_in_nI (by omega) (by omega)) d_La_law_695 ?_
                      refine aw_ti (y := nI 0) (by rw [nI_clamp (by omega)]; exact hm0.symm) ?_
                      obtain ⟨_, he270⟩ := zr_M0 hSh
                      refine va_calli (va_runV (As := [.int (nI j), .int x269, .int fr, .int (nI 0)]) (rest := []) ⟨hx, hb, hml, hown, hG⟩ (k_Mo_feedXbV l D g ad N0 zG zO zX zY266 zA zB zM zI zL zK zN zF zQ267 j x269 fr (nI 0) hj hi) (aw_wV 4 hG gw_12_26 gw_12_23 gw_0_10 gw_12_24 gw_12_25 rfl rfl hd_Mo_feed ⟨Nat.le_of_ble_eq_true rfl, Nat.le_of_ble_eq_true rfl⟩) (ag_qV (va_recv hK hP rfl he270) hP hD hSh hU hS) rfl rfl hl.1 rfl (lv_room (Nat.le_of_ble_eq_true rfl)) d_La_law_696 ⟨by omega, by omega⟩) hS (fun _ _ h => h) (fun _ h => h) ?_
                      clear hP hD hSh hS he270
                      intro x271 u8 t8 H locs ht _ ex271 hB _ _ hS
                      obtain ⟨L, hP, hD, hSh⟩ := hB
                      rw [ht] at hP
                      clear ht
                      have ex271 := ex271.symm
                      refine lv_istore hx hb d_La_law_699 hl (by decide) rfl (fun ls hl => ?_)
                      have hl : lv_has ls 8 [(6, .int x271), (5, .int (nI 0)), (0, .ref b), (1, .ref (aw_r ad 0)), (2, .ref (aw_m ad 0)), (3, .ref (aw_o ad)), (4, .int (nI (6 * t)))] := hl
                      refine lv_goto (tgt := 853) hx hb d_La_law_701 (by decide) ?_
                      refine lv_iinc (k := 6) (v := nI (6 * t + 6)) hx hb d_La_law_853 hl rfl (aw_inc (6 * t) 6 6 (by decide +kernel)) (by decide) rfl (fun ls hl => ?_)
                      have hl : lv_has ls 8 [(4, .int (nI (6 * t + 6))), (6, .int x271), (5, .int (nI 0)), (0, .ref b), (1, .ref (aw_r ad 0)), (2, .ref (aw_m ad 0)), (3, .ref (aw_o ad))] := hl
                      refine lv_goto (tgt := 23) hx hb d_La_law_856 (by decide) ?_
                      have hl := lv_sub hl (l' := [(0, .ref b), (1, .ref (aw_r ad 0)), (2, .ref (aw_m ad 0)), (3, .ref (aw_o ad)), (4, .int (nI (6 * t + 6)))]) [3, 4, 5, 6, 0] rfl
                      refine W.widen (k := 85 + (t + 1)) (n := 1246 + 6 * (t + 1)) (by omega) (by omega) ?_
                      have hR : az_R zG zO zX zY266 zA zB zM zI zL := by
                        subst ex271 ebx269 ezQ267 ezY266 ebx264
                        exact r_feed10b_Xb hR hj hs hm
                      exact ih (t + 1) zG zO zX zY266 zA zB zM zI zL zK zN (nI 1) zQ267 _ _ L ls (by omega) hP hD hSh hR hS (by first | exact hl | simpa [Nat.mul_add] using hl)
                    refine lv_if_eq (tgt := 683) hx hb d_La_law_676 (by decide) (fun h9 => ?_) (fun h9 => ?_)
                    · refine lv_iconst (v := nI 0) hx hb d_La_law_683 (by decide +kernel) ?_
                      exact hj268 _ (if_pos h9)
                    · refine lv_iconst (v := nI 1) hx hb d_La_law_679 (by decide +kernel) ?_
                      refine lv_goto (tgt := 684) hx hb d_La_law_680 (by decide) ?_
                      exact hj268 _ (if_neg h9)
                  refine lv_if_eq (tgt := 644) hx hb d_La_law_637 (by decide) (fun h9 => ?_) (fun h9 => ?_)
                  · refine lv_iconst (v := nI 0) hx hb d_La_law_644 (by decide +kernel) ?_
                    exact hj263 _ (if_pos h9)
                  · refine lv_iconst (v := nI 1) hx hb d_La_law_640 (by decide +kernel) ?_
                    refine lv_goto (tgt := 645) hx hb d_La_law_641 (by decide) ?_
                    exact hj263 _ (if_neg h9)
                · refine lv_aload_n hx hb d_La_law_624 rfl (lv_at hl 1 rfl) ?_
                  refine lv_aload_n hx hb d_La_law_625 rfl (lv_at hl 0 rfl) ?_
                  refine lv_iload hx hb d_La_law_626 (lv_at hl 4 rfl) ?_
                  refine lv_iconst (v := nI 1) hx hb d_La_law_628 (by decide +kernel) ?_
                  refine lv_iadd hx hb d_La_law_629 ?_
                  refine aw_ti (nI_add (6 * t) 1) ?_
                  refine va_sld hx hb hX hbl hbA hS (i := (nI ((6 * t) + 1))) (vp_in_nI (by omega) (by omega)) d_La_law_630 ?_
                  refine aw_ti (y := nI j) (by rw [nI_clamp (by omega)]; exact hc0.symm) ?_
                  refine lv_aload_n hx hb d_La_law_631 rfl (lv_at hl 0 rfl) ?_
                  refine lv_iload hx hb d_La_law_632 (lv_at hl 4 rfl) ?_
                  refine lv_iconst (v := nI 2) hx hb d_La_law_634 (by decide +kernel) ?_
                  refine lv_iadd hx hb d_La_law_635 ?_
                  refine aw_ti (nI_add (6 * t) 2) ?_
                  refine va_sld hx hb hX hbl hbA hS (i := (nI ((6 * t) + 2))) (vp_in_nI (by omega) (by omega)) d_La_law_636 ?_
                  refine aw_ti (y := s2) (by rw [nI_clamp (by omega)]; exact hs2.symm) ?_
                  have hj272 : ∀ x273 : Int32, (if s2 = 0 then nI 0 else nI 1) = x273 → W p l e room_1 s m #[Value.ref b] below meth c H locs (85 + t) (1246 + 6 * t) (lw_Z below #[Value.ref b] s) (F0 m 645 ls [.int x273, .int (nI j), .ref (aw_r ad 0)]) := by
                    intro x273 ebx273
                    refine lv_aload_n hx hb d_La_law_645 rfl (lv_at hl 0 rfl) ?_
                    refine lv_iload hx hb d_La_law_646 (lv_at hl 4 rfl) ?_
                    refine lv_iconst (v := nI 3) hx hb d_La_law_648 (by decide +kernel) ?_
                    refine lv_iadd hx hb d_La_law_649 ?_
                    refine aw_ti (nI_add (6 * t) 3) ?_
                    refine va_sld hx hb hX hbl hbA hS (i := (nI ((6 * t) + 3))) (vp_in_nI (by omega) (by omega)) d_La_law_650 ?_
                    refine aw_ti (y := fr) (by rw [nI_clamp (by omega)]; exact hfr.symm) ?_
                    refine lv_aload_n hx hb d_La_law_651 rfl (lv_at hl 0 rfl) ?_
                    refine lv_iload hx hb d_La_law_652 (lv_at hl 4 rfl) ?_
                    refine lv_iconst (v := nI 4) hx hb d_La_law_654 (by decide +kernel) ?_
                    refine lv_iadd hx hb d_La_law_655 ?_
                    refine aw_ti (nI_add (6 * t) 4) ?_
                    refine va_sld hx hb hX hbl hbA hS (i := (nI ((6 * t) + 4))) (vp_in_nI (by omega) (by omega)) d_La_law_656 ?_
                    refine aw_ti (y := nI 0) (by rw [nI_clamp (by omega)]; exact hm0.symm) ?_
                    refine lv_aload_n hx hb d_La_law_657 rfl (lv_at hl 3 rfl) ?_
                    refine va_calli (vx_runSW (As := [.ref (aw_r ad 0), .int (nI j), .int x273, .int fr, .int (nI 0), .ref (aw_o ad)]) (rest := []) ⟨hx, hb, hml, hown, hG⟩ (k_La_feed10V l hst D g ad N0 zG zO zX zY zA zB zM zI zL zK zN zF zQ j x273 fr hj (by omega) (by omega) (by omega)) (aw_wW 6 hG gw_7_42 gw_7_40 gw_0_0 gw_7_41 rfl rfl hd_La_feed ⟨Nat.le_of_ble_eq_true rfl, Nat.le_of_ble_eq_true rfl⟩) (ag_qS hP hD hSh hU hS) rfl rfl hl.1 rfl (lv_room (Nat.le_of_ble_eq_true rfl)) d_La_law_658 ⟨by omega, by omega⟩) hS (fun _ _ h => h) (fun _ h => h) ?_
                    clear hP hD hSh hS
                    intro x274 u8 t8 H locs ht _ ex274 hB _ _ hS
                    obtain ⟨L, hP, hD, hSh⟩ := hB
                    rw [ht] at hP
                    clear ht
                    subst ex274
                    obtain ⟨zY275, ezY275⟩ : ∃ z : Nat → Nat → Int32, v_La_feed10V_zY zY j = z := ⟨_, rfl⟩
                    rw [ezY275] at hSh
                    obtain ⟨zQ276, ezQ276⟩ : ∃ z : Int64, v_La_feed10V_zQ zY j = z := ⟨_, rfl⟩
                    rw [ezQ276] at hSh
                    refine lv_istore hx hb d_La_law_661 hl (by decide) rfl (fun ls hl => ?_)
                    have hl : lv_has ls 8 [(5, .int (nI 0)), (0, .ref b), (1, .ref (aw_r ad 0)), (2, .ref (aw_m ad 0)), (3, .ref (aw_o ad)), (4, .int (nI (6 * t)))] := hl
                    refine lv_aload_n hx hb d_La_law_663 rfl (lv_at hl 3 rfl) ?_
                    refine lv_aload_n hx hb d_La_law_664 rfl (lv_at hl 1 rfl) ?_
                    refine lv_iload hx hb d_La_law_665 (lv_at hl 5 rfl) ?_
                    refine lv_iconst (v := nI 1) hx hb d_La_law_667 (by decide +kernel) ?_
                    refine lv_iadd hx hb d_La_law_668 ?_
                    refine aw_ti (nI_add (6 * t) 1) ?_
                    refine va_sld hx hb hX hbl hbA hS (i := (nI ((6 * t) + 1))) (vp_in_nI (by omega) (by omega)) d_La_law_669 ?_
                    refine aw_ti (y := nI j) (by rw [nI_clamp (by omega)]; exact hc0.symm) ?_
                    refine lv_aload_n hx hb d_La_law_670 rfl (lv_at hl 1 rfl) ?_
                    refine lv_iload hx hb d_La_law_671 (lv_at hl 5 rfl) ?_
                    refine lv_iconst (v := nI 2) hx hb d_La_law_673 (by decide +kernel) ?_
                    refine lv_iadd hx hb d_La_law_674 ?_
                    refine aw_ti (nI_add (6 * t) 2) ?_
                    refine va_sld hx hb hX hbl hbA hS (i := (nI ((6 * t) + 2))) (vp_in_nI (by omega) (by omega)) d_La_law_675 ?_
                    refine aw_ti (y := s2) (by rw [nI_clamp (by omega)]; exact hs2.symm) ?_
                    have hj277 : ∀ x278 : Int32, (if s2 = 0 then nI 0 else nI 1) = x278 → W p l e room_1 s m #[Value.ref b] below meth c H locs ((85 + t) + 1) ((1246 + 6 * t) + 6) (lw_Z below #[Value.ref b] s) (F0 m 684 ls [.int x278, .int (nI j), .ref (aw_m ad 0)]) := by
                      intro x278 ebx278
                      refine lv_aload_n hx hb d_La_law_684 rfl (lv_at hl 1 rfl) ?_
                      refine lv_iload hx hb d_La_law_685 (lv_at hl 5 rfl) ?_
                      refine lv_iconst (v := nI 3) hx hb d_La_law_687 (by decide +kernel) ?_
                      refine lv_iadd hx hb d_La_law_688 ?_
                      refine aw_ti (nI_add (6 * t) 3) ?_
                      refine va_sld hx hb hX hbl hbA hS (i := (nI ((6 * t) + 3))) (vp_in_nI (by omega) (by omega)) d_La_law_689 ?_
                      refine aw_ti (y := fr) (by rw [nI_clamp (by omega)]; exact hfr.symm) ?_
                      refine lv_aload_n hx hb d_La_law_690 rfl (lv_at hl 1 rfl) ?_
                      refine lv_iload hx hb d_La_law_691 (lv_at hl 5 rfl) ?_
                      refine lv_iconst (v := nI 4) hx hb d_La_law_693 (by decide +kernel) ?_
                      refine lv_iadd hx hb d_La_law_694 ?_
                      refine aw_ti (nI_add (6 * t) 4) ?_
                      refine va_sld hx hb hX hbl hbA hS (i := (nI ((6 * t) + 4))) (vp_in_nI (by omega) (by omega)) d_La_law_695 ?_
                      refine aw_ti (y := nI 0) (by rw [nI_clamp (by omega)]; exact hm0.symm) ?_
                      obtain ⟨_, he279⟩ := zr_M0 hSh
                      refine va_calli (va_runV (As := [.int (nI j), .int x278, .int fr, .int (nI 0)]) (rest := []) ⟨hx, hb, hml, hown, hG⟩ (k_Mo_feedXbV l D g ad N0 zG zO zX zY275 zA zB zM zI zL zK zN zF zQ276 j x278 fr (nI 0) hj hi) (aw_wV 4 hG gw_12_26 gw_12_23 gw_0_10 gw_12_24 gw_12_25 rfl rfl hd_Mo_feed ⟨Nat.le_of_ble_eq_true rfl, Nat.le_of_ble_eq_true rfl⟩) (ag_qV (va_recv hK hP rfl he279) hP hD hSh hU hS) rfl rfl hl.1 rfl (lv_room (Nat.le_of_ble_eq_true rfl)) d_La_law_696 ⟨by omega, by omega⟩) hS (fun _ _ h => h) (fun _ h => h) ?_
                      clear hP hD hSh hS he279
                      intro x280 u8 t8 H locs ht _ ex280 hB _ _ hS
                      obtain ⟨L, hP, hD, hSh⟩ := hB
                      rw [ht] at hP
                      clear ht
                      have ex280 := ex280.symm
                      refine lv_istore hx hb d_La_law_699 hl (by decide) rfl (fun ls hl => ?_)
                      have hl : lv_has ls 8 [(6, .int x280), (5, .int (nI 0)), (0, .ref b), (1, .ref (aw_r ad 0)), (2, .ref (aw_m ad 0)), (3, .ref (aw_o ad)), (4, .int (nI (6 * t)))] := hl
                      refine lv_goto (tgt := 853) hx hb d_La_law_701 (by decide) ?_
                      refine lv_iinc (k := 6) (v := nI (6 * t + 6)) hx hb d_La_law_853 hl rfl (aw_inc (6 * t) 6 6 (by decide +kernel)) (by decide) rfl (fun ls hl => ?_)
                      have hl : lv_has ls 8 [(4, .int (nI (6 * t + 6))), (6, .int x280), (5, .int (nI 0)), (0, .ref b), (1, .ref (aw_r ad 0)), (2, .ref (aw_m ad 0)), (3, .ref (aw_o ad))] := hl
                      refine lv_goto (tgt := 23) hx hb d_La_law_856 (by decide) ?_
                      have hl := lv_sub hl (l' := [(0, .ref b), (1, .ref (aw_r ad 0)), (2, .ref (aw_m ad 0)), (3, .ref (aw_o ad)), (4, .int (nI (6 * t + 6)))]) [3, 4, 5, 6, 0] rfl
                      refine W.widen (k := 85 + (t + 1)) (n := 1246 + 6 * (t + 1)) (by omega) (by omega) ?_
                      have hR : az_R zG zO zX zY275 zA zB zM zI zL := by
                        subst ex280 ebx278 ezQ276 ezY275 ebx273
                        exact r_feed10_Xb hR hj hs (by omega)
                      exact ih (t + 1) zG zO zX zY275 zA zB zM zI zL zK zN (nI 1) zQ276 _ _ L ls (by omega) hP hD hSh hR hS (by first | exact hl | simpa [Nat.mul_add] using hl)
                    refine lv_if_eq (tgt := 683) hx hb d_La_law_676 (by decide) (fun h9 => ?_) (fun h9 => ?_)
                    · refine lv_iconst (v := nI 0) hx hb d_La_law_683 (by decide +kernel) ?_
                      exact hj277 _ (if_pos h9)
                    · refine lv_iconst (v := nI 1) hx hb d_La_law_679 (by decide +kernel) ?_
                      refine lv_goto (tgt := 684) hx hb d_La_law_680 (by decide) ?_
                      exact hj277 _ (if_neg h9)
                  refine lv_if_eq (tgt := 644) hx hb d_La_law_637 (by decide) (fun h9 => ?_) (fun h9 => ?_)
                  · refine lv_iconst (v := nI 0) hx hb d_La_law_644 (by decide +kernel) ?_
                    exact hj272 _ (if_pos h9)
                  · refine lv_iconst (v := nI 1) hx hb d_La_law_640 (by decide +kernel) ?_
                    refine lv_goto (tgt := 645) hx hb d_La_law_641 (by decide) ?_
                    exact hj272 _ (if_neg h9)
            · refine lv_aload_n hx hb d_La_law_624 rfl (lv_at hl 1 rfl) ?_
              refine lv_aload_n hx hb d_La_law_625 rfl (lv_at hl 0 rfl) ?_
              refine lv_iload hx hb d_La_law_626 (lv_at hl 4 rfl) ?_
              refine lv_iconst (v := nI 1) hx hb d_La_law_628 (by decide +kernel) ?_
              refine lv_iadd hx hb d_La_law_629 ?_
              refine aw_ti (nI_add (6 * t) 1) ?_
              refine va_sld hx hb hX hbl hbA hS (i := (nI ((6 * t) + 1))) (vp_in_nI (by omega) (by omega)) d_La_law_630 ?_
              refine aw_ti (y := nI j) (by rw [nI_clamp (by omega)]; exact hc0.symm) ?_
              refine lv_aload_n hx hb d_La_law_631 rfl (lv_at hl 0 rfl) ?_
              refine lv_iload hx hb d_La_law_632 (lv_at hl 4 rfl) ?_
              refine lv_iconst (v := nI 2) hx hb d_La_law_634 (by decide +kernel) ?_
              refine lv_iadd hx hb d_La_law_635 ?_
              refine aw_ti (nI_add (6 * t) 2) ?_
              refine va_sld hx hb hX hbl hbA hS (i := (nI ((6 * t) + 2))) (vp_in_nI (by omega) (by omega)) d_La_law_636 ?_
              refine aw_ti (y := s2) (by rw [nI_clamp (by omega)]; exact hs2.symm) ?_
              have hj281 : ∀ x282 : Int32, (if s2 = 0 then nI 0 else nI 1) = x282 → W p l e room_1 s m #[Value.ref b] below meth c H locs (85 + t) (1246 + 6 * t) (lw_Z below #[Value.ref b] s) (F0 m 645 ls [.int x282, .int (nI j), .ref (aw_r ad 0)]) := by
                intro x282 ebx282
                refine lv_aload_n hx hb d_La_law_645 rfl (lv_at hl 0 rfl) ?_
                refine lv_iload hx hb d_La_law_646 (lv_at hl 4 rfl) ?_
                refine lv_iconst (v := nI 3) hx hb d_La_law_648 (by decide +kernel) ?_
                refine lv_iadd hx hb d_La_law_649 ?_
                refine aw_ti (nI_add (6 * t) 3) ?_
                refine va_sld hx hb hX hbl hbA hS (i := (nI ((6 * t) + 3))) (vp_in_nI (by omega) (by omega)) d_La_law_650 ?_
                refine aw_ti (y := fr) (by rw [nI_clamp (by omega)]; exact hfr.symm) ?_
                refine lv_aload_n hx hb d_La_law_651 rfl (lv_at hl 0 rfl) ?_
                refine lv_iload hx hb d_La_law_652 (lv_at hl 4 rfl) ?_
                refine lv_iconst (v := nI 4) hx hb d_La_law_654 (by decide +kernel) ?_
                refine lv_iadd hx hb d_La_law_655 ?_
                refine aw_ti (nI_add (6 * t) 4) ?_
                refine va_sld hx hb hX hbl hbA hS (i := (nI ((6 * t) + 4))) (vp_in_nI (by omega) (by omega)) d_La_law_656 ?_
                refine aw_ti (y := nI 0) (by rw [nI_clamp (by omega)]; exact hm0.symm) ?_
                refine lv_aload_n hx hb d_La_law_657 rfl (lv_at hl 3 rfl) ?_
                refine va_calli (vx_runSW (As := [.ref (aw_r ad 0), .int (nI j), .int x282, .int fr, .int (nI 0), .ref (aw_o ad)]) (rest := []) ⟨hx, hb, hml, hown, hG⟩ (k_La_feedXs0V l hst D g ad N0 zG zO zX zY zA zB zM zI zL zK zN zF zQ j x282 fr hj (by omega)) (aw_wW 6 hG gw_7_42 gw_7_40 gw_0_0 gw_7_41 rfl rfl hd_La_feed ⟨Nat.le_of_ble_eq_true rfl, Nat.le_of_ble_eq_true rfl⟩) (ag_qS hP hD hSh hU hS) rfl rfl hl.1 rfl (lv_room (Nat.le_of_ble_eq_true rfl)) d_La_law_658 ⟨by omega, by omega⟩) hS (fun _ _ h => h) (fun _ h => h) ?_
                clear hP hD hSh hS
                intro x283 u8 t8 H locs ht _ ex283 hB _ _ hS
                obtain ⟨L, hP, hD, hSh⟩ := hB
                rw [ht] at hP
                clear ht
                subst ex283
                refine lv_istore hx hb d_La_law_661 hl (by decide) rfl (fun ls hl => ?_)
                have hl : lv_has ls 8 [(5, .int (nI 2)), (0, .ref b), (1, .ref (aw_r ad 0)), (2, .ref (aw_m ad 0)), (3, .ref (aw_o ad)), (4, .int (nI (6 * t)))] := hl
                refine lv_aload_n hx hb d_La_law_663 rfl (lv_at hl 3 rfl) ?_
                refine lv_aload_n hx hb d_La_law_664 rfl (lv_at hl 1 rfl) ?_
                refine lv_iload hx hb d_La_law_665 (lv_at hl 5 rfl) ?_
                refine lv_iconst (v := nI 1) hx hb d_La_law_667 (by decide +kernel) ?_
                refine lv_iadd hx hb d_La_law_668 ?_
                refine aw_ti (nI_add (6 * t) 1) ?_
                refine va_sld hx hb hX hbl hbA hS (i := (nI ((6 * t) + 1))) (vp_in_nI (by omega) (by omega)) d_La_law_669 ?_
                refine aw_ti (y := nI j) (by rw [nI_clamp (by omega)]; exact hc0.symm) ?_
                refine lv_aload_n hx hb d_La_law_670 rfl (lv_at hl 1 rfl) ?_
                refine lv_iload hx hb d_La_law_671 (lv_at hl 5 rfl) ?_
                refine lv_iconst (v := nI 2) hx hb d_La_law_673 (by decide +kernel) ?_
                refine lv_iadd hx hb d_La_law_674 ?_
                refine aw_ti (nI_add (6 * t) 2) ?_
                refine va_sld hx hb hX hbl hbA hS (i := (nI ((6 * t) + 2))) (vp_in_nI (by omega) (by omega)) d_La_law_675 ?_
                refine aw_ti (y := s2) (by rw [nI_clamp (by omega)]; exact hs2.symm) ?_
                have hj284 : ∀ x285 : Int32, (if s2 = 0 then nI 0 else nI 1) = x285 → W p l e room_1 s m #[Value.ref b] below meth c H locs ((85 + t) + 1) ((1246 + 6 * t) + 6) (lw_Z below #[Value.ref b] s) (F0 m 684 ls [.int x285, .int (nI j), .ref (aw_m ad 0)]) := by
                  intro x285 ebx285
                  refine lv_aload_n hx hb d_La_law_684 rfl (lv_at hl 1 rfl) ?_
                  refine lv_iload hx hb d_La_law_685 (lv_at hl 5 rfl) ?_
                  refine lv_iconst (v := nI 3) hx hb d_La_law_687 (by decide +kernel) ?_
                  refine lv_iadd hx hb d_La_law_688 ?_
                  refine aw_ti (nI_add (6 * t) 3) ?_
                  refine va_sld hx hb hX hbl hbA hS (i := (nI ((6 * t) + 3))) (vp_in_nI (by omega) (by omega)) d_La_law_689 ?_
                  refine aw_ti (y := fr) (by rw [nI_clamp (by omega)]; exact hfr.symm) ?_
                  refine lv_aload_n hx hb d_La_law_690 rfl (lv_at hl 1 rfl) ?_
                  refine lv_iload hx hb d_La_law_691 (lv_at hl 5 rfl) ?_
                  refine lv_iconst (v := nI 4) hx hb d_La_law_693 (by decide +kernel) ?_
                  refine lv_iadd hx hb d_La_law_694 ?_
                  refine aw_ti (nI_add (6 * t) 4) ?_
                  refine va_sld hx hb hX hbl hbA hS (i := (nI ((6 * t) + 4))) (vp_in_nI (by omega) (by omega)) d_La_law_695 ?_
                  refine aw_ti (y := nI 0) (by rw [nI_clamp (by omega)]; exact hm0.symm) ?_
                  obtain ⟨_, he286⟩ := zr_M0 hSh
                  refine va_calli (va_runV (As := [.int (nI j), .int x285, .int fr, .int (nI 0)]) (rest := []) ⟨hx, hb, hml, hown, hG⟩ (k_Mo_feedXbV l D g ad N0 zG zO zX zY zA zB zM zI zL zK zN zF zQ j x285 fr (nI 0) hj hi) (aw_wV 4 hG gw_12_26 gw_12_23 gw_0_10 gw_12_24 gw_12_25 rfl rfl hd_Mo_feed ⟨Nat.le_of_ble_eq_true rfl, Nat.le_of_ble_eq_true rfl⟩) (ag_qV (va_recv hK hP rfl he286) hP hD hSh hU hS) rfl rfl hl.1 rfl (lv_room (Nat.le_of_ble_eq_true rfl)) d_La_law_696 ⟨by omega, by omega⟩) hS (fun _ _ h => h) (fun _ h => h) ?_
                  clear hP hD hSh hS he286
                  intro x287 u8 t8 H locs ht _ ex287 hB _ _ hS
                  obtain ⟨L, hP, hD, hSh⟩ := hB
                  rw [ht] at hP
                  clear ht
                  have ex287 := ex287.symm
                  refine lv_istore hx hb d_La_law_699 hl (by decide) rfl (fun ls hl => ?_)
                  have hl : lv_has ls 8 [(6, .int x287), (5, .int (nI 2)), (0, .ref b), (1, .ref (aw_r ad 0)), (2, .ref (aw_m ad 0)), (3, .ref (aw_o ad)), (4, .int (nI (6 * t)))] := hl
                  refine lv_goto (tgt := 853) hx hb d_La_law_701 (by decide) ?_
                  refine lv_iinc (k := 6) (v := nI (6 * t + 6)) hx hb d_La_law_853 hl rfl (aw_inc (6 * t) 6 6 (by decide +kernel)) (by decide) rfl (fun ls hl => ?_)
                  have hl : lv_has ls 8 [(4, .int (nI (6 * t + 6))), (6, .int x287), (5, .int (nI 2)), (0, .ref b), (1, .ref (aw_r ad 0)), (2, .ref (aw_m ad 0)), (3, .ref (aw_o ad))] := hl
                  refine lv_goto (tgt := 23) hx hb d_La_law_856 (by decide) ?_
                  have hl := lv_sub hl (l' := [(0, .ref b), (1, .ref (aw_r ad 0)), (2, .ref (aw_m ad 0)), (3, .ref (aw_o ad)), (4, .int (nI (6 * t + 6)))]) [3, 4, 5, 6, 0] rfl
                  refine W.widen (k := 85 + (t + 1)) (n := 1246 + 6 * (t + 1)) (by omega) (by omega) ?_
                  exact ih (t + 1) zG zO zX zY zA zB zM zI zL zK zN (nI 1) zQ _ _ L ls (by omega) hP hD hSh hR hS (by first | exact hl | simpa [Nat.mul_add] using hl)
                refine lv_if_eq (tgt := 683) hx hb d_La_law_676 (by decide) (fun h9 => ?_) (fun h9 => ?_)
                · refine lv_iconst (v := nI 0) hx hb d_La_law_683 (by decide +kernel) ?_
                  exact hj284 _ (if_pos h9)
                · refine lv_iconst (v := nI 1) hx hb d_La_law_679 (by decide +kernel) ?_
                  refine lv_goto (tgt := 684) hx hb d_La_law_680 (by decide) ?_
                  exact hj284 _ (if_neg h9)
              refine lv_if_eq (tgt := 644) hx hb d_La_law_637 (by decide) (fun h9 => ?_) (fun h9 => ?_)
              · refine lv_iconst (v := nI 0) hx hb d_La_law_644 (by decide +kernel) ?_
                exact hj281 _ (if_pos h9)
              · refine lv_iconst (v := nI 1) hx hb d_La_law_640 (by decide +kernel) ?_
                refine lv_goto (tgt := 645) hx hb d_La_law_641 (by decide) ?_
                exact hj281 _ (if_neg h9)
          · by_cases hs : (zG j).1 = 3
            · by_cases h5 : (zG j).2 = 5
              · refine lv_aload_n hx hb d_La_law_624 rfl (lv_at hl 1 rfl) ?_
                refine lv_aload_n hx hb d_La_law_625 rfl (lv_at hl 0 rfl) ?_
                refine lv_iload hx hb d_La_law_626 (lv_at hl 4 rfl) ?_
                refine lv_iconst (v := nI 1) hx hb d_La_law_628 (by decide +kernel) ?_
                refine lv_iadd hx hb d_La_law_629 ?_
                refine aw_ti (nI_add (6 * t) 1) ?_
                refine va_sld hx hb hX hbl hbA hS (i := (nI ((6 * t) + 1))) (vp_in_nI (by omega) (by omega)) d_La_law_630 ?_
                refine aw_ti (y := nI j) (by rw [nI_clamp (by omega)]; exact hc0.symm) ?_
                refine lv_aload_n hx hb d_La_law_631 rfl (lv_at hl 0 rfl) ?_
                refine lv_iload hx hb d_La_law_632 (lv_at hl 4 rfl) ?_
                refine lv_iconst (v := nI 2) hx hb d_La_law_634 (by decide +kernel) ?_
                refine lv_iadd hx hb d_La_law_635 ?_
                refine aw_ti (nI_add (6 * t) 2) ?_
                refine va_sld hx hb hX hbl hbA hS (i := (nI ((6 * t) + 2))) (vp_in_nI (by omega) (by omega)) d_La_law_636 ?_
                refine aw_ti (y := s2) (by rw [nI_clamp (by omega)]; exact hs2.symm) ?_
                have hj288 : ∀ x289 : Int32, (if s2 = 0 then nI 0 else nI 1) = x289 → W p l e room_1 s m #[Value.ref b] below meth c H locs (85 + t) (1246 + 6 * t) (lw_Z below #[Value.ref b] s) (F0 m 645 ls [.int x289, .int (nI j), .ref (aw_r ad 0)]) := by
                  intro x289 ebx289
                  refine lv_aload_n hx hb d_La_law_645 rfl (lv_at hl 0 rfl) ?_
                  refine lv_iload hx hb d_La_law_646 (lv_at hl 4 rfl) ?_
                  refine lv_iconst (v := nI 3) hx hb d_La_law_648 (by decide +kernel) ?_
                  refine lv_iadd hx hb d_La_law_649 ?_
                  refine aw_ti (nI_add (6 * t) 3) ?_
                  refine va_sld hx hb hX hbl hbA hS (i := (nI ((6 * t) + 3))) (vp_in_nI (by omega) (by omega)) d_La_law_650 ?_
                  refine aw_ti (y := nI k) (by rw [nI_clamp (by omega)]; exact hfr.symm) ?_
                  refine lv_aload_n hx hb d_La_law_651 rfl (lv_at hl 0 rfl) ?_
                  refine lv_iload hx hb d_La_law_652 (lv_at hl 4 rfl) ?_
                  refine lv_iconst (v := nI 4) hx hb d_La_law_654 (by decide +kernel) ?_
                  refine lv_iadd hx hb d_La_law_655 ?_
                  refine aw_ti (nI_add (6 * t) 4) ?_
                  refine va_sld hx hb hX hbl hbA hS (i := (nI ((6 * t) + 4))) (vp_in_nI (by omega) (by omega)) d_La_law_656 ?_
                  refine aw_ti (y := nI 0) (by rw [nI_clamp (by omega)]; exact hm0.symm) ?_
                  refine lv_aload_n hx hb d_La_law_657 rfl (lv_at hl 3 rfl) ?_
                  refine va_calli (vx_runSW (As := [.ref (aw_r ad 0), .int (nI j), .int x289, .int (nI k), .int (nI 0), .ref (aw_o ad)]) (rest := []) ⟨hx, hb, hml, hown, hG⟩ (k_La_feedXs0V l hst D g ad N0 zG zO zX zY zA zB zM zI zL zK zN zF zQ j x289 (nI k) hj (by omega)) (aw_wW 6 hG gw_7_42 gw_7_40 gw_0_0 gw_7_41 rfl rfl hd_La_feed ⟨Nat.le_of_ble_eq_true rfl, Nat.le_of_ble_eq_true rfl⟩) (ag_qS hP hD hSh hU hS) rfl rfl hl.1 rfl (lv_room (Nat.le_of_ble_eq_true rfl)) d_La_law_658 ⟨by omega, by omega⟩) hS (fun _ _ h => h) (fun _ h => h) ?_
                  clear hP hD hSh hS
                  intro x290 u8 t8 H locs ht _ ex290 hB _ _ hS
                  obtain ⟨L, hP, hD, hSh⟩ := hB
                  rw [ht] at hP
                  clear ht
                  subst ex290
                  refine lv_istore hx hb d_La_law_661 hl (by decide) rfl (fun ls hl => ?_)
                  have hl : lv_has ls 8 [(5, .int (nI 2)), (0, .ref b), (1, .ref (aw_r ad 0)), (2, .ref (aw_m ad 0)), (3, .ref (aw_o ad)), (4, .int (nI (6 * t)))] := hl
                  refine lv_aload_n hx hb d_La_law_663 rfl (lv_at hl 3 rfl) ?_
                  refine lv_aload_n hx hb d_La_law_664 rfl (lv_at hl 1 rfl) ?_
                  refine lv_iload hx hb d_La_law_665 (lv_at hl 5 rfl) ?_
                  refine lv_iconst (v := nI 1) hx hb d_La_law_667 (by decide +kernel) ?_
                  refine lv_iadd hx hb d_La_law_668 ?_
                  refine aw_ti (nI_add (6 * t) 1) ?_
                  refine va_sld hx hb hX hbl hbA hS (i := (nI ((6 * t) + 1))) (vp_in_nI (by omega) (by omega)) d_La_law_669 ?_
                  refine aw_ti (y := nI j) (by rw [nI_clamp (by omega)]; exact hc0.symm) ?_
                  refine lv_aload_n hx hb d_La_law_670 rfl (lv_at hl 1 rfl) ?_
                  refine lv_iload hx hb d_La_law_671 (lv_at hl 5 rfl) ?_
                  refine lv_iconst (v := nI 2) hx hb d_La_law_673 (by decide +kernel) ?_
                  refine lv_iadd hx hb d_La_law_674 ?_
                  refine aw_ti (nI_add (6 * t) 2) ?_
                  refine va_sld hx hb hX hbl hbA hS (i := (nI ((6 * t) + 2))) (vp_in_nI (by omega) (by omega)) d_La_law_675 ?_
                  refine aw_ti (y := s2) (by rw [nI_clamp (by omega)]; exact hs2.symm) ?_
                  have hj291 : ∀ x292 : Int32, (if s2 = 0 then nI 0 else nI 1) = x292 → W p l e room_1 s m #[Value.ref b] below meth c H locs ((85 + t) + 1) ((1246 + 6 * t) + 6) (lw_Z below #[Value.ref b] s) (F0 m 684 ls [.int x292, .int (nI j), .ref (aw_m ad 0)]) := by
                    intro x292 ebx292
                    refine lv_aload_n hx hb d_La_law_684 rfl (lv_at hl 1 rfl) ?_
                    refine lv_iload hx hb d_La_law_685 (lv_at hl 5 rfl) ?_
                    refine lv_iconst (v := nI 3) hx hb d_La_law_687 (by decide +kernel) ?_
                    refine lv_iadd hx hb d_La_law_688 ?_
                    refine aw_ti (nI_add (6 * t) 3) ?_
                    refine va_sld hx hb hX hbl hbA hS (i := (nI ((6 * t) + 3))) (vp_in_nI (by omega) (by omega)) d_La_law_689 ?_
                    refine aw_ti (y := nI k) (by rw [nI_clamp (by omega)]; exact hfr.symm) ?_
                    refine lv_aload_n hx hb d_La_law_690 rfl (lv_at hl 1 rfl) ?_
                    refine lv_iload hx hb d_La_law_691 (lv_at hl 5 rfl) ?_
                    refine lv_iconst (v := nI 4) hx hb d_La_law_693 (by decide +kernel) ?_
                    refine lv_iadd hx hb d_La_law_694 ?_
                    refine aw_ti (nI_add (6 * t) 4) ?_
                    refine va_sld hx hb hX hbl hbA hS (i := (nI ((6 * t) + 4))) (vp_in_nI (by omega) (by omega)) d_La_law_695 ?_
                    refine aw_ti (y := nI 0) (by rw [nI_clamp (by omega)]; exact hm0.symm) ?_
                    obtain ⟨_, he293⟩ := zr_M0 hSh
                    refine va_calli (va_runV (As := [.int (nI j), .int x292, .int (nI k), .int (nI 0)]) (rest := []) ⟨hx, hb, hml, hown, hG⟩ (k_Mo_feedXsV l D g ad N0 zG zO zX zY zA zB zM zI zL zK zN zF zQ j x292 k 0 hj (by omega) (by omega)) (aw_wV 4 hG gw_12_26 gw_12_23 gw_0_10 gw_12_24 gw_12_25 rfl rfl hd_Mo_feed ⟨Nat.le_of_ble_eq_true rfl, Nat.le_of_ble_eq_true rfl⟩) (ag_qV (va_recv hK hP rfl he293) hP hD hSh hU hS) rfl rfl hl.1 rfl (lv_room (Nat.le_of_ble_eq_true rfl)) d_La_law_696 ⟨by omega, by omega⟩) hS (fun _ _ h => h) (fun _ h => h) ?_
                    clear hP hD hSh hS he293
                    intro x294 u8 t8 H locs ht _ ex294 hB _ _ hS
                    obtain ⟨L, hP, hD, hSh⟩ := hB
                    rw [ht] at hP
                    clear ht
                    have ex294 := ex294.symm
                    refine lv_istore hx hb d_La_law_699 hl (by decide) rfl (fun ls hl => ?_)
                    have hl : lv_has ls 8 [(6, .int x294), (5, .int (nI 2)), (0, .ref b), (1, .ref (aw_r ad 0)), (2, .ref (aw_m ad 0)), (3, .ref (aw_o ad)), (4, .int (nI (6 * t)))] := hl
                    refine lv_goto (tgt := 853) hx hb d_La_law_701 (by decide) ?_
                    refine lv_iinc (k := 6) (v := nI (6 * t + 6)) hx hb d_La_law_853 hl rfl (aw_inc (6 * t) 6 6 (by decide +kernel)) (by decide) rfl (fun ls hl => ?_)
                    have hl : lv_has ls 8 [(4, .int (nI (6 * t + 6))), (6, .int x294), (5, .int (nI 2)), (0, .ref b), (1, .ref (aw_r ad 0)), (2, .ref (aw_m ad 0)), (3, .ref (aw_o ad))] := hl
                    refine lv_goto (tgt := 23) hx hb d_La_law_856 (by decide) ?_
                    have hl := lv_sub hl (l' := [(0, .ref b), (1, .ref (aw_r ad 0)), (2, .ref (aw_m ad 0)), (3, .ref (aw_o ad)), (4, .int (nI (6 * t + 6)))]) [3, 4, 5, 6, 0] rfl
                    refine W.widen (k := 85 + (t + 1)) (n := 1246 + 6 * (t + 1)) (by omega) (by omega) ?_
                    exact ih (t + 1) zG zO zX zY zA zB zM zI zL zK zN (nI 2) zQ _ _ L ls (by omega) hP hD hSh hR hS (by first | exact hl | simpa [Nat.mul_add] using hl)
                  refine lv_if_eq (tgt := 683) hx hb d_La_law_676 (by decide) (fun h9 => ?_) (fun h9 => ?_)
                  · refine lv_iconst (v := nI 0) hx hb d_La_law_683 (by decide +kernel) ?_
                    exact hj291 _ (if_pos h9)
                  · refine lv_iconst (v := nI 1) hx hb d_La_law_679 (by decide +kernel) ?_
                    refine lv_goto (tgt := 684) hx hb d_La_law_680 (by decide) ?_
                    exact hj291 _ (if_neg h9)
                refine lv_if_eq (tgt := 644) hx hb d_La_law_637 (by decide) (fun h9 => ?_) (fun h9 => ?_)
                · refine lv_iconst (v := nI 0) hx hb d_La_law_644 (by decide +kernel) ?_
                  exact hj288 _ (if_pos h9)
                · refine lv_iconst (v := nI 1) hx hb d_La_law_640 (by decide +kernel) ?_
                  refine lv_goto (tgt := 645) hx hb d_La_law_641 (by decide) ?_
                  exact hj288 _ (if_neg h9)
              · by_cases hm : (zG j).2 ≤ 1
                · obtain ⟨kc, hkc, hci, hco⟩ := hR.2.1 j hj (by omega)
                  refine lv_aload_n hx hb d_La_law_624 rfl (lv_at hl 1 rfl) ?_
                  refine lv_aload_n hx hb d_La_law_625 rfl (lv_at hl 0 rfl) ?_
                  refine lv_iload hx hb d_La_law_626 (lv_at hl 4 rfl) ?_
                  refine lv_iconst (v := nI 1) hx hb d_La_law_628 (by decide +kernel) ?_
                  refine lv_iadd hx hb d_La_law_629 ?_
                  refine aw_ti (nI_add (6 * t) 1) ?_
                  refine va_sld hx hb hX hbl hbA hS (i := (nI ((6 * t) + 1))) (vp_in_nI (by omega) (by omega)) d_La_law_630 ?_
                  refine aw_ti (y := nI j) (by rw [nI_clamp (by omega)]; exact hc0.symm) ?_
                  refine lv_aload_n hx hb d_La_law_631 rfl (lv_at hl 0 rfl) ?_
                  refine lv_iload hx hb d_La_law_632 (lv_at hl 4 rfl) ?_
                  refine lv_iconst (v := nI 2) hx hb d_La_law_634 (by decide +kernel) ?_
                  refine lv_iadd hx hb d_La_law_635 ?_
                  refine aw_ti (nI_add (6 * t) 2) ?_
                  refine va_sld hx hb hX hbl hbA hS (i := (nI ((6 * t) + 2))) (vp_in_nI (by omega) (by omega)) d_La_law_636 ?_
                  refine aw_ti (y := s2) (by rw [nI_clamp (by omega)]; exact hs2.symm) ?_
                  have hj295 : ∀ x296 : Int32, (if s2 = 0 then nI 0 else nI 1) = x296 → W p l e room_1 s m #[Value.ref b] below meth c H locs (85 + t) (1246 + 6 * t) (lw_Z below #[Value.ref b] s) (F0 m 645 ls [.int x296, .int (nI j), .ref (aw_r ad 0)]) := by
                    intro x296 ebx296
                    refine lv_aload_n hx hb d_La_law_645 rfl (lv_at hl 0 rfl) ?_
                    refine lv_iload hx hb d_La_law_646 (lv_at hl 4 rfl) ?_
                    refine lv_iconst (v := nI 3) hx hb d_La_law_648 (by decide +kernel) ?_
                    refine lv_iadd hx hb d_La_law_649 ?_
                    refine aw_ti (nI_add (6 * t) 3) ?_
                    refine va_sld hx hb hX hbl hbA hS (i := (nI ((6 * t) + 3))) (vp_in_nI (by omega) (by omega)) d_La_law_650 ?_
                    refine aw_ti (y := nI k) (by rw [nI_clamp (by omega)]; exact hfr.symm) ?_
                    refine lv_aload_n hx hb d_La_law_651 rfl (lv_at hl 0 rfl) ?_
                    refine lv_iload hx hb d_La_law_652 (lv_at hl 4 rfl) ?_
                    refine lv_iconst (v := nI 4) hx hb d_La_law_654 (by decide +kernel) ?_
                    refine lv_iadd hx hb d_La_law_655 ?_
                    refine aw_ti (nI_add (6 * t) 4) ?_
                    refine va_sld hx hb hX hbl hbA hS (i := (nI ((6 * t) + 4))) (vp_in_nI (by omega) (by omega)) d_La_law_656 ?_
                    refine aw_ti (y := nI 0) (by rw [nI_clamp (by omega)]; exact hm0.symm) ?_
                    refine lv_aload_n hx hb d_La_law_657 rfl (lv_at hl 3 rfl) ?_
                    refine va_calli (vx_runSW (As := [.ref (aw_r ad 0), .int (nI j), .int x296, .int (nI k), .int (nI 0), .ref (aw_o ad)]) (rest := []) ⟨hx, hb, hml, hown, hG⟩ (k_La_feed10bV l hst D g ad N0 zG zO zX zY zA zB zM zI zL zK zN zF zQ j x296 (nI k) hj (by omega) (by omega)) (aw_wW 6 hG gw_7_42 gw_7_40 gw_0_0 gw_7_41 rfl rfl hd_La_feed ⟨Nat.le_of_ble_eq_true rfl, Nat.le_of_ble_eq_true rfl⟩) (ag_qS hP hD hSh hU hS) rfl rfl hl.1 rfl (lv_room (Nat.le_of_ble_eq_true rfl)) d_La_law_658 ⟨by omega, by omega⟩) hS (fun _ _ h => h) (fun _ h => h) ?_
                    clear hP hD hSh hS
                    intro x297 u8 t8 H locs ht _ ex297 hB _ _ hS
                    obtain ⟨L, hP, hD, hSh⟩ := hB
                    rw [ht] at hP
                    clear ht
                    subst ex297
                    obtain ⟨zY298, ezY298⟩ : ∃ z : Nat → Nat → Int32, v_La_feed10bV_zY zY j = z := ⟨_, rfl⟩
                    rw [ezY298] at hSh
                    obtain ⟨zQ299, ezQ299⟩ : ∃ z : Int64, v_La_feed10bV_zQ zY j = z := ⟨_, rfl⟩
                    rw [ezQ299] at hSh
                    refine lv_istore hx hb d_La_law_661 hl (by decide) rfl (fun ls hl => ?_)
                    have hl : lv_has ls 8 [(5, .int (nI 0)), (0, .ref b), (1, .ref (aw_r ad 0)), (2, .ref (aw_m ad 0)), (3, .ref (aw_o ad)), (4, .int (nI (6 * t)))] := hl
                    refine lv_aload_n hx hb d_La_law_663 rfl (lv_at hl 3 rfl) ?_
                    refine lv_aload_n hx hb d_La_law_664 rfl (lv_at hl 1 rfl) ?_
                    refine lv_iload hx hb d_La_law_665 (lv_at hl 5 rfl) ?_
                    refine lv_iconst (v := nI 1) hx hb d_La_law_667 (by decide +kernel) ?_
                    refine lv_iadd hx hb d_La_law_668 ?_
                    refine aw_ti (nI_add (6 * t) 1) ?_
                    refine va_sld hx hb hX hbl hbA hS (i := (nI ((6 * t) + 1))) (vp_in_nI (by omega) (by omega)) d_La_law_669 ?_
                    refine aw_ti (y := nI j) (by rw [nI_clamp (by omega)]; exact hc0.symm) ?_
                    refine lv_aload_n hx hb d_La_law_670 rfl (lv_at hl 1 rfl) ?_
                    refine lv_iload hx hb d_La_law_671 (lv_at hl 5 rfl) ?_
                    refine lv_iconst (v := nI 2) hx hb d_La_law_673 (by decide +kernel) ?_
                    refine lv_iadd hx hb d_La_law_674 ?_
                    refine aw_ti (nI_add (6 * t) 2) ?_
                    refine va_sld hx hb hX hbl hbA hS (i := (nI ((6 * t) + 2))) (vp_in_nI (by omega) (by omega)) d_La_law_675 ?_
                    refine aw_ti (y := s2) (by rw [nI_clamp (by omega)]; exact hs2.symm) ?_
                    have hj300 : ∀ x301 : Int32, (if s2 = 0 then nI 0 else nI 1) = x301 → W p l e room_1 s m #[Value.ref b] below meth c H locs ((85 + t) + 1) ((1246 + 6 * t) + 6) (lw_Z below #[Value.ref b] s) (F0 m 684 ls [.int x301, .int (nI j), .ref (aw_m ad 0)]) := by
                      intro x301 ebx301
                      refine lv_aload_n hx hb d_La_law_684 rfl (lv_at hl 1 rfl) ?_
                      refine lv_iload hx hb d_La_law_685 (lv_at hl 5 rfl) ?_
                      refine lv_iconst (v := nI 3) hx hb d_La_law_687 (by decide +kernel) ?_
                      refine lv_iadd hx hb d_La_law_688 ?_
                      refine aw_ti (nI_add (6 * t) 3) ?_
                      refine va_sld hx hb hX hbl hbA hS (i := (nI ((6 * t) + 3))) (vp_in_nI (by omega) (by omega)) d_La_law_689 ?_
                      refine aw_ti (y := nI k) (by rw [nI_clamp (by omega)]; exact hfr.symm) ?_
                      refine lv_aload_n hx hb d_La_law_690 rfl (lv_at hl 1 rfl) ?_
                      refine lv_iload hx hb d_La_law_691 (lv_at hl 5 rfl) ?_
                      refine lv_iconst (v := nI 4) hx hb d_La_law_693 (by decide +kernel) ?_
                      refine lv_iadd hx hb d_La_law_694 ?_
                      refine aw_ti (nI_add (6 * t) 4) ?_
                      refine va_sld hx hb hX hbl hbA hS (i := (nI ((6 * t) + 4))) (vp_in_nI (by omega) (by omega)) d_La_law_695 ?_
                      refine aw_ti (y := nI 0) (by rw [nI_clamp (by omega)]; exact hm0.symm) ?_
                      obtain ⟨_, he302⟩ := zr_M0 hSh
                      refine va_calli (va_runV (As := [.int (nI j), .int x301, .int (nI k), .int (nI 0)]) (rest := []) ⟨hx, hb, hml, hown, hG⟩ (k_Mo_feed8V l D g ad N0 zG zO zX zY298 zA zB zM zI zL zK zN zF zQ299 j kc x301 k 0 hj (by omega) (by omega) (by omega) (by omega) hkc hci) (aw_wV 4 hG gw_12_26 gw_12_23 gw_0_10 gw_12_24 gw_12_25 rfl rfl hd_Mo_feed ⟨Nat.le_of_ble_eq_true rfl, Nat.le_of_ble_eq_true rfl⟩) (ag_qV (va_recv hK hP rfl he302) hP hD hSh hU hS) rfl rfl hl.1 rfl (lv_room (Nat.le_of_ble_eq_true rfl)) d_La_law_696 ⟨by omega, by omega⟩) hS (fun _ _ h => h) (fun _ h => h) ?_
                      clear hP hD hSh hS he302
                      intro x303 u8 t8 H locs ht _ ex303 hB _ _ hS
                      obtain ⟨L, hP, hD, hSh⟩ := hB
                      rw [ht] at hP
                      clear ht
                      obtain ⟨zI304, ezI304⟩ : ∃ z : Nat → Nat → Int32, v_Mo_feed8V_zI zM zI zL j kc x301 k 0 = z := ⟨_, rfl⟩
                      rw [ezI304] at hSh
                      obtain ⟨zL305, ezL305⟩ : ∃ z : Nat → Nat → Int64, v_Mo_feed8V_zL zM zI zL j kc x301 k 0 = z := ⟨_, rfl⟩
                      rw [ezL305] at hSh
                      have ex303 := ex303.symm
                      refine lv_istore hx hb d_La_law_699 hl (by decide) rfl (fun ls hl => ?_)
                      have hl : lv_has ls 8 [(6, .int x303), (5, .int (nI 0)), (0, .ref b), (1, .ref (aw_r ad 0)), (2, .ref (aw_m ad 0)), (3, .ref (aw_o ad)), (4, .int (nI (6 * t)))] := hl
                      refine lv_goto (tgt := 853) hx hb d_La_law_701 (by decide) ?_
                      refine lv_iinc (k := 6) (v := nI (6 * t + 6)) hx hb d_La_law_853 hl rfl (aw_inc (6 * t) 6 6 (by decide +kernel)) (by decide) rfl (fun ls hl => ?_)
                      have hl : lv_has ls 8 [(4, .int (nI (6 * t + 6))), (6, .int x303), (5, .int (nI 0)), (0, .ref b), (1, .ref (aw_r ad 0)), (2, .ref (aw_m ad 0)), (3, .ref (aw_o ad))] := hl
                      refine lv_goto (tgt := 23) hx hb d_La_law_856 (by decide) ?_
                      have hl := lv_sub hl (l' := [(0, .ref b), (1, .ref (aw_r ad 0)), (2, .ref (aw_m ad 0)), (3, .ref (aw_o ad)), (4, .int (nI (6 * t + 6)))]) [3, 4, 5, 6, 0] rfl
                      refine W.widen (k := 85 + (t + 1)) (n := 1246 + 6 * (t + 1)) (by omega) (by omega) ?_
                      have hR : az_R zG zO zX zY298 zA zB zM zI304 zL305 := by
                        subst ex303 ezL305 ezI304 ebx301 ezQ299 ezY298 ebx296
                        exact r_feed10b_8 hR hj hs hm hk hkc hci hco
                      exact ih (t + 1) zG zO zX zY298 zA zB zM zI304 zL305 (nI kc) (az_wn kc) (nI 0) zQ299 _ _ L ls (by omega) hP hD hSh hR hS (by first | exact hl | simpa [Nat.mul_add] using hl)
                    refine lv_if_eq (tgt := 683) hx hb d_La_law_676 (by decide) (fun h9 => ?_) (fun h9 => ?_)
                    · refine lv_iconst (v := nI 0) hx hb d_La_law_683 (by decide +kernel) ?_
                      exact hj300 _ (if_pos h9)
                    · refine lv_iconst (v := nI 1) hx hb d_La_law_679 (by decide +kernel) ?_
                      refine lv_goto (tgt := 684) hx hb d_La_law_680 (by decide) ?_
                      exact hj300 _ (if_neg h9)
                  refine lv_if_eq (tgt := 644) hx hb d_La_law_637 (by decide) (fun h9 => ?_) (fun h9 => ?_)
                  · refine lv_iconst (v := nI 0) hx hb d_La_law_644 (by decide +kernel) ?_
                    exact hj295 _ (if_pos h9)
                  · refine lv_iconst (v := nI 1) hx hb d_La_law_640 (by decide +kernel) ?_
                    refine lv_goto (tgt := 645) hx hb d_La_law_641 (by decide) ?_
                    exact hj295 _ (if_neg h9)
                · obtain ⟨kc, hkc, hci, hco⟩ := hR.2.1 j hj (by omega)
                  refine lv_aload_n hx hb d_La_law_624 rfl (lv_at hl 1 rfl) ?_
                  refine lv_aload_n hx hb d_La_law_625 rfl (lv_at hl 0 rfl) ?_
                  refine lv_iload hx hb d_La_law_626 (lv_at hl 4 rfl) ?_
                  refine lv_iconst (v := nI 1) hx hb d_La_law_628 (by decide +kernel) ?_
                  refine lv_iadd hx hb d_La_law_629 ?_
                  refine aw_ti (nI_add (6 * t) 1) ?_
                  refine va_sld hx hb hX hbl hbA hS (i := (nI ((6 * t) + 1))) (vp_in_nI (by omega) (by omega)) d_La_law_630 ?_
                  refine aw_ti (y := nI j) (by rw [nI_clamp (by omega)]; exact hc0.symm) ?_
                  refine lv_aload_n hx hb d_La_law_631 rfl (lv_at hl 0 rfl) ?_
                  refine lv_iload hx hb d_La_law_632 (lv_at hl 4 rfl) ?_
                  refine lv_iconst (v := nI 2) hx hb d_La_law_634 (by decide +kernel) ?_
                  refine lv_iadd hx hb d_La_law_635 ?_
                  refine aw_ti (nI_add (6 * t) 2) ?_
                  refine va_sld hx hb hX hbl hbA hS (i := (nI ((6 * t) + 2))) (vp_in_nI (by omega) (by omega)) d_La_law_636 ?_
                  refine aw_ti (y := s2) (by rw [nI_clamp (by omega)]; exact hs2.symm) ?_
                  have hj306 : ∀ x307 : Int32, (if s2 = 0 then nI 0 else nI 1) = x307 → W p l e room_1 s m #[Value.ref b] below meth c H locs (85 + t) (1246 + 6 * t) (lw_Z below #[Value.ref b] s) (F0 m 645 ls [.int x307, .int (nI j), .ref (aw_r ad 0)]) := by
                    intro x307 ebx307
                    refine lv_aload_n hx hb d_La_law_645 rfl (lv_at hl 0 rfl) ?_
                    refine lv_iload hx hb d_La_law_646 (lv_at hl 4 rfl) ?_
                    refine lv_iconst (v := nI 3) hx hb d_La_law_648 (by decide +kernel) ?_
                    refine lv_iadd hx hb d_La_law_649 ?_
                    refine aw_ti (nI_add (6 * t) 3) ?_
                    refine va_sld hx hb hX hbl hbA hS (i := (nI ((6 * t) + 3))) (vp_in_nI (by omega) (by omega)) d_La_law_650 ?_
                    refine aw_ti (y := nI k) (by rw [nI_clamp (by omega)]; exact hfr.symm) ?_
                    refine lv_aload_n hx hb d_La_law_651 rfl (lv_at hl 0 rfl) ?_
                    refine lv_iload hx hb d_La_law_652 (lv_at hl 4 rfl) ?_
                    refine lv_iconst (v := nI 4) hx hb d_La_law_654 (by decide +kernel) ?_
                    refine lv_iadd hx hb d_La_law_655 ?_
                    refine aw_ti (nI_add (6 * t) 4) ?_
                    refine va_sld hx hb hX hbl hbA hS (i := (nI ((6 * t) + 4))) (vp_in_nI (by omega) (by omega)) d_La_law_656 ?_
                    refine aw_ti (y := nI 0) (by rw [nI_clamp (by omega)]; exact hm0.symm) ?_
                    refine lv_aload_n hx hb d_La_law_657 rfl (lv_at hl 3 rfl) ?_
                    refine va_calli (vx_runSW (As := [.ref (aw_r ad 0), .int (nI j), .int x307, .int (nI k), .int (nI 0), .ref (aw_o ad)]) (rest := []) ⟨hx, hb, hml, hown, hG⟩ (k_La_feed10V l hst D g ad N0 zG zO zX zY zA zB zM zI zL zK zN zF zQ j x307 (nI k) hj (by omega) (by omega) (by omega)) (aw_wW 6 hG gw_7_42 gw_7_40 gw_0_0 gw_7_41 rfl rfl hd_La_feed ⟨Nat.le_of_ble_eq_true rfl, Nat.le_of_ble_eq_true rfl⟩) (ag_qS hP hD hSh hU hS) rfl rfl hl.1 rfl (lv_room (Nat.le_of_ble_eq_true rfl)) d_La_law_658 ⟨by omega, by omega⟩) hS (fun _ _ h => h) (fun _ h => h) ?_
                    clear hP hD hSh hS
                    intro x308 u8 t8 H locs ht _ ex308 hB _ _ hS
                    obtain ⟨L, hP, hD, hSh⟩ := hB
                    rw [ht] at hP
                    clear ht
                    subst ex308
                    obtain ⟨zY309, ezY309⟩ : ∃ z : Nat → Nat → Int32, v_La_feed10V_zY zY j = z := ⟨_, rfl⟩
                    rw [ezY309] at hSh
                    obtain ⟨zQ310, ezQ310⟩ : ∃ z : Int64, v_La_feed10V_zQ zY j = z := ⟨_, rfl⟩
                    rw [ezQ310] at hSh
                    refine lv_istore hx hb d_La_law_661 hl (by decide) rfl (fun ls hl => ?_)
                    have hl : lv_has ls 8 [(5, .int (nI 0)), (0, .ref b), (1, .ref (aw_r ad 0)), (2, .ref (aw_m ad 0)), (3, .ref (aw_o ad)), (4, .int (nI (6 * t)))] := hl
                    refine lv_aload_n hx hb d_La_law_663 rfl (lv_at hl 3 rfl) ?_
                    refine lv_aload_n hx hb d_La_law_664 rfl (lv_at hl 1 rfl) ?_
                    refine lv_iload hx hb d_La_law_665 (lv_at hl 5 rfl) ?_
                    refine lv_iconst (v := nI 1) hx hb d_La_law_667 (by decide +kernel) ?_
                    refine lv_iadd hx hb d_La_law_668 ?_
                    refine aw_ti (nI_add (6 * t) 1) ?_
                    refine va_sld hx hb hX hbl hbA hS (i := (nI ((6 * t) + 1))) (vp_in_nI (by omega) (by omega)) d_La_law_669 ?_
                    refine aw_ti (y := nI j) (by rw [nI_clamp (by omega)]; exact hc0.symm) ?_
                    refine lv_aload_n hx hb d_La_law_670 rfl (lv_at hl 1 rfl) ?_
                    refine lv_iload hx hb d_La_law_671 (lv_at hl 5 rfl) ?_
                    refine lv_iconst (v := nI 2) hx hb d_La_law_673 (by decide +kernel) ?_
                    refine lv_iadd hx hb d_La_law_674 ?_
                    refine aw_ti (nI_add (6 * t) 2) ?_
                    refine va_sld hx hb hX hbl hbA hS (i := (nI ((6 * t) + 2))) (vp_in_nI (by omega) (by omega)) d_La_law_675 ?_
                    refine aw_ti (y := s2) (by rw [nI_clamp (by omega)]; exact hs2.symm) ?_
                    have hj311 : ∀ x312 : Int32, (if s2 = 0 then nI 0 else nI 1) = x312 → W p l e room_1 s m #[Value.ref b] below meth c H locs ((85 + t) + 1) ((1246 + 6 * t) + 6) (lw_Z below #[Value.ref b] s) (F0 m 684 ls [.int x312, .int (nI j), .ref (aw_m ad 0)]) := by
                      intro x312 ebx312
                      refine lv_aload_n hx hb d_La_law_684 rfl (lv_at hl 1 rfl) ?_
                      refine lv_iload hx hb d_La_law_685 (lv_at hl 5 rfl) ?_
                      refine lv_iconst (v := nI 3) hx hb d_La_law_687 (by decide +kernel) ?_
                      refine lv_iadd hx hb d_La_law_688 ?_
                      refine aw_ti (nI_add (6 * t) 3) ?_
                      refine va_sld hx hb hX hbl hbA hS (i := (nI ((6 * t) + 3))) (vp_in_nI (by omega) (by omega)) d_La_law_689 ?_
                      refine aw_ti (y := nI k) (by rw [nI_clamp (by omega)]; exact hfr.symm) ?_
                      refine lv_aload_n hx hb d_La_law_690 rfl (lv_at hl 1 rfl) ?_
                      refine lv_iload hx hb d_La_law_691 (lv_at hl 5 rfl) ?_
                      refine lv_iconst (v := nI 4) hx hb d_La_law_693 (by decide +kernel) ?_
                      refine lv_iadd hx hb d_La_law_694 ?_
                      refine aw_ti (nI_add (6 * t) 4) ?_
                      refine va_sld hx hb hX hbl hbA hS (i := (nI ((6 * t) + 4))) (vp_in_nI (by omega) (by omega)) d_La_law_695 ?_
                      refine aw_ti (y := nI 0) (by rw [nI_clamp (by omega)]; exact hm0.symm) ?_
                      obtain ⟨_, he313⟩ := zr_M0 hSh
                      refine va_calli (va_runV (As := [.int (nI j), .int x312, .int (nI k), .int (nI 0)]) (rest := []) ⟨hx, hb, hml, hown, hG⟩ (k_Mo_feed1V l D g ad N0 zG zO zX zY309 zA zB zM zI zL zK zN zF zQ310 j kc x312 k 0 hj (by omega) (by omega) (by omega) (by omega) hkc hci) (aw_wV 4 hG gw_12_26 gw_12_23 gw_0_10 gw_12_24 gw_12_25 rfl rfl hd_Mo_feed ⟨Nat.le_of_ble_eq_true rfl, Nat.le_of_ble_eq_true rfl⟩) (ag_qV (va_recv hK hP rfl he313) hP hD hSh hU hS) rfl rfl hl.1 rfl (lv_room (Nat.le_of_ble_eq_true rfl)) d_La_law_696 ⟨by omega, by omega⟩) hS (fun _ _ h => h) (fun _ h => h) ?_
                      clear hP hD hSh hS he313
                      intro x314 u8 t8 H locs ht _ ex314 hB _ _ hS
                      obtain ⟨L, hP, hD, hSh⟩ := hB
                      rw [ht] at hP
                      clear ht
                      obtain ⟨zI315, ezI315⟩ : ∃ z : Nat → Nat → Int32, v_Mo_feed1V_zI zM zI zL j kc x312 k 0 = z := ⟨_, rfl⟩
                      rw [ezI315] at hSh
                      obtain ⟨zL316, ezL316⟩ : ∃ z : Nat → Nat → Int64, v_Mo_feed1V_zL zM zI zL j kc x312 k 0 = z := ⟨_, rfl⟩
                      rw [ezL316] at hSh
                      have ex314 := ex314.symm
                      refine lv_istore hx hb d_La_law_699 hl (by decide) rfl (fun ls hl => ?_)
                      have hl : lv_has ls 8 [(6, .int x314), (5, .int (nI 0)), (0, .ref b), (1, .ref (aw_r ad 0)), (2, .ref (aw_m ad 0)), (3, .ref (aw_o ad)), (4, .int (nI (6 * t)))] := hl
                      refine lv_goto (tgt := 853) hx hb d_La_law_701 (by decide) ?_
                      refine lv_iinc (k := 6) (v := nI (6 * t + 6)) hx hb d_La_law_853 hl rfl (aw_inc (6 * t) 6 6 (by decide +kernel)) (by decide) rfl (fun ls hl => ?_)
                      have hl : lv_has ls 8 [(4, .int (nI (6 * t + 6))), (6, .int x314), (5, .int (nI 0)), (0, .ref b), (1, .ref (aw_r ad 0)), (2, .ref (aw_m ad 0)), (3, .ref (aw_o ad))] := hl
                      refine lv_goto (tgt := 23) hx hb d_La_law_856 (by decide) ?_
                      have hl := lv_sub hl (l' := [(0, .ref b), (1, .ref (aw_r ad 0)), (2, .ref (aw_m ad 0)), (3, .ref (aw_o ad)), (4, .int (nI (6 * t + 6)))]) [3, 4, 5, 6, 0] rfl
                      refine W.widen (k := 85 + (t + 1)) (n := 1246 + 6 * (t + 1)) (by omega) (by omega) ?_
                      have hR : az_R zG zO zX zY309 zA zB zM zI315 zL316 := by
                        subst ex314 ezL316 ezI315 ebx312 ezQ310 ezY309 ebx307
                        exact r_feed10_1 hR hj hs (by omega) (by omega) hk hkc hci hco
                      exact ih (t + 1) zG zO zX zY309 zA zB zM zI315 zL316 (nI kc) (az_wn kc) (nI 0) zQ310 _ _ L ls (by omega) hP hD hSh hR hS (by first | exact hl | simpa [Nat.mul_add] using hl)
                    refine lv_if_eq (tgt := 683) hx hb d_La_law_676 (by decide) (fun h9 => ?_) (fun h9 => ?_)
                    · refine lv_iconst (v := nI 0) hx hb d_La_law_683 (by decide +kernel) ?_
                      exact hj311 _ (if_pos h9)
                    · refine lv_iconst (v := nI 1) hx hb d_La_law_679 (by decide +kernel) ?_
                      refine lv_goto (tgt := 684) hx hb d_La_law_680 (by decide) ?_
                      exact hj311 _ (if_neg h9)
                  refine lv_if_eq (tgt := 644) hx hb d_La_law_637 (by decide) (fun h9 => ?_) (fun h9 => ?_)
                  · refine lv_iconst (v := nI 0) hx hb d_La_law_644 (by decide +kernel) ?_
                    exact hj306 _ (if_pos h9)
                  · refine lv_iconst (v := nI 1) hx hb d_La_law_640 (by decide +kernel) ?_
                    refine lv_goto (tgt := 645) hx hb d_La_law_641 (by decide) ?_
                    exact hj306 _ (if_neg h9)
            · refine lv_aload_n hx hb d_La_law_624 rfl (lv_at hl 1 rfl) ?_
              refine lv_aload_n hx hb d_La_law_625 rfl (lv_at hl 0 rfl) ?_
              refine lv_iload hx hb d_La_law_626 (lv_at hl 4 rfl) ?_
              refine lv_iconst (v := nI 1) hx hb d_La_law_628 (by decide +kernel) ?_
              refine lv_iadd hx hb d_La_law_629 ?_
              refine aw_ti (nI_add (6 * t) 1) ?_
              refine va_sld hx hb hX hbl hbA hS (i := (nI ((6 * t) + 1))) (vp_in_nI (by omega) (by omega)) d_La_law_630 ?_
              refine aw_ti (y := nI j) (by rw [nI_clamp (by omega)]; exact hc0.symm) ?_
              refine lv_aload_n hx hb d_La_law_631 rfl (lv_at hl 0 rfl) ?_
              refine lv_iload hx hb d_La_law_632 (lv_at hl 4 rfl) ?_
              refine lv_iconst (v := nI 2) hx hb d_La_law_634 (by decide +kernel) ?_
              refine lv_iadd hx hb d_La_law_635 ?_
              refine aw_ti (nI_add (6 * t) 2) ?_
              refine va_sld hx hb hX hbl hbA hS (i := (nI ((6 * t) + 2))) (vp_in_nI (by omega) (by omega)) d_La_law_636 ?_
              refine aw_ti (y := s2) (by rw [nI_clamp (by omega)]; exact hs2.symm) ?_
              have hj317 : ∀ x318 : Int32, (if s2 = 0 then nI 0 else nI 1) = x318 → W p l e room_1 s m #[Value.ref b] below meth c H locs (85 + t) (1246 + 6 * t) (lw_Z below #[Value.ref b] s) (F0 m 645 ls [.int x318, .int (nI j), .ref (aw_r ad 0)]) := by
                intro x318 ebx318
                refine lv_aload_n hx hb d_La_law_645 rfl (lv_at hl 0 rfl) ?_
                refine lv_iload hx hb d_La_law_646 (lv_at hl 4 rfl) ?_
                refine lv_iconst (v := nI 3) hx hb d_La_law_648 (by decide +kernel) ?_
                refine lv_iadd hx hb d_La_law_649 ?_
                refine aw_ti (nI_add (6 * t) 3) ?_
                refine va_sld hx hb hX hbl hbA hS (i := (nI ((6 * t) + 3))) (vp_in_nI (by omega) (by omega)) d_La_law_650 ?_
                refine aw_ti (y := nI k) (by rw [nI_clamp (by omega)]; exact hfr.symm) ?_
                refine lv_aload_n hx hb d_La_law_651 rfl (lv_at hl 0 rfl) ?_
                refine lv_iload hx hb d_La_law_652 (lv_at hl 4 rfl) ?_
                refine lv_iconst (v := nI 4) hx hb d_La_law_654 (by decide +kernel) ?_
                refine lv_iadd hx hb d_La_law_655 ?_
                refine aw_ti (nI_add (6 * t) 4) ?_
                refine va_sld hx hb hX hbl hbA hS (i := (nI ((6 * t) + 4))) (vp_in_nI (by omega) (by omega)) d_La_law_656 ?_
                refine aw_ti (y := nI 0) (by rw [nI_clamp (by omega)]; exact hm0.symm) ?_
                refine lv_aload_n hx hb d_La_law_657 rfl (lv_at hl 3 rfl) ?_
                refine va_calli (vx_runSW (As := [.ref (aw_r ad 0), .int (nI j), .int x318, .int (nI k), .int (nI 0), .ref (aw_o ad)]) (rest := []) ⟨hx, hb, hml, hown, hG⟩ (k_La_feedXs0V l hst D g ad N0 zG zO zX zY zA zB zM zI zL zK zN zF zQ j x318 (nI k) hj (by omega)) (aw_wW 6 hG gw_7_42 gw_7_40 gw_0_0 gw_7_41 rfl rfl hd_La_feed ⟨Nat.le_of_ble_eq_true rfl, Nat.le_of_ble_eq_true rfl⟩) (ag_qS hP hD hSh hU hS) rfl rfl hl.1 rfl (lv_room (Nat.le_of_ble_eq_true rfl)) d_La_law_658 ⟨by omega, by omega⟩) hS (fun _ _ h => h) (fun _ h => h) ?_
                clear hP hD hSh hS
                intro x319 u8 t8 H locs ht _ ex319 hB _ _ hS
                obtain ⟨L, hP, hD, hSh⟩ := hB
                rw [ht] at hP
                clear ht
                subst ex319
                refine lv_istore hx hb d_La_law_661 hl (by decide) rfl (fun ls hl => ?_)
                have hl : lv_has ls 8 [(5, .int (nI 2)), (0, .ref b), (1, .ref (aw_r ad 0)), (2, .ref (aw_m ad 0)), (3, .ref (aw_o ad)), (4, .int (nI (6 * t)))] := hl
                refine lv_aload_n hx hb d_La_law_663 rfl (lv_at hl 3 rfl) ?_
                refine lv_aload_n hx hb d_La_law_664 rfl (lv_at hl 1 rfl) ?_
                refine lv_iload hx hb d_La_law_665 (lv_at hl 5 rfl) ?_
                refine lv_iconst (v := nI 1) hx hb d_La_law_667 (by decide +kernel) ?_
                refine lv_iadd hx hb d_La_law_668 ?_
                refine aw_ti (nI_add (6 * t) 1) ?_
                refine va_sld hx hb hX hbl hbA hS (i := (nI ((6 * t) + 1))) (vp_in_nI (by omega) (by omega)) d_La_law_669 ?_
                refine aw_ti (y := nI j) (by rw [nI_clamp (by omega)]; exact hc0.symm) ?_
                refine lv_aload_n hx hb d_La_law_670 rfl (lv_at hl 1 rfl) ?_
                refine lv_iload hx hb d_La_law_671 (lv_at hl 5 rfl) ?_
                refine lv_iconst (v := nI 2) hx hb d_La_law_673 (by decide +kernel) ?_
                refine lv_iadd hx hb d_La_law_674 ?_
                refine aw_ti (nI_add (6 * t) 2) ?_
                refine va_sld hx hb hX hbl hbA hS (i := (nI ((6 * t) + 2))) (vp_in_nI (by omega) (by omega)) d_La_law_675 ?_
                refine aw_ti (y := s2) (by rw [nI_clamp (by omega)]; exact hs2.symm) ?_
                have hj320 : ∀ x321 : Int32, (if s2 = 0 then nI 0 else nI 1) = x321 → W p l e room_1 s m #[Value.ref b] below meth c H locs ((85 + t) + 1) ((1246 + 6 * t) + 6) (lw_Z below #[Value.ref b] s) (F0 m 684 ls [.int x321, .int (nI j), .ref (aw_m ad 0)]) := by
                  intro x321 ebx321
                  refine lv_aload_n hx hb d_La_law_684 rfl (lv_at hl 1 rfl) ?_
                  refine lv_iload hx hb d_La_law_685 (lv_at hl 5 rfl) ?_
                  refine lv_iconst (v := nI 3) hx hb d_La_law_687 (by decide +kernel) ?_
                  refine lv_iadd hx hb d_La_law_688 ?_
                  refine aw_ti (nI_add (6 * t) 3) ?_
                  refine va_sld hx hb hX hbl hbA hS (i := (nI ((6 * t) + 3))) (vp_in_nI (by omega) (by omega)) d_La_law_689 ?_
                  refine aw_ti (y := nI k) (by rw [nI_clamp (by omega)]; exact hfr.symm) ?_
                  refine lv_aload_n hx hb d_La_law_690 rfl (lv_at hl 1 rfl) ?_
                  refine lv_iload hx hb d_La_law_691 (lv_at hl 5 rfl) ?_
                  refine lv_iconst (v := nI 4) hx hb d_La_law_693 (by decide +kernel) ?_
                  refine lv_iadd hx hb d_La_law_694 ?_
                  refine aw_ti (nI_add (6 * t) 4) ?_
                  refine va_sld hx hb hX hbl hbA hS (i := (nI ((6 * t) + 4))) (vp_in_nI (by omega) (by omega)) d_La_law_695 ?_
                  refine aw_ti (y := nI 0) (by rw [nI_clamp (by omega)]; exact hm0.symm) ?_
                  obtain ⟨_, he322⟩ := zr_M0 hSh
                  refine va_calli (va_runV (As := [.int (nI j), .int x321, .int (nI k), .int (nI 0)]) (rest := []) ⟨hx, hb, hml, hown, hG⟩ (k_Mo_feedXsV l D g ad N0 zG zO zX zY zA zB zM zI zL zK zN zF zQ j x321 k 0 hj (by omega) (by omega)) (aw_wV 4 hG gw_12_26 gw_12_23 gw_0_10 gw_12_24 gw_12_25 rfl rfl hd_Mo_feed ⟨Nat.le_of_ble_eq_true rfl, Nat.le_of_ble_eq_true rfl⟩) (ag_qV (va_recv hK hP rfl he322) hP hD hSh hU hS) rfl rfl hl.1 rfl (lv_room (Nat.le_of_ble_eq_true rfl)) d_La_law_696 ⟨by omega, by omega⟩) hS (fun _ _ h => h) (fun _ h => h) ?_
                  clear hP hD hSh hS he322
                  intro x323 u8 t8 H locs ht _ ex323 hB _ _ hS
                  obtain ⟨L, hP, hD, hSh⟩ := hB
                  rw [ht] at hP
                  clear ht
                  have ex323 := ex323.symm
                  refine lv_istore hx hb d_La_law_699 hl (by decide) rfl (fun ls hl => ?_)
                  have hl : lv_has ls 8 [(6, .int x323), (5, .int (nI 2)), (0, .ref b), (1, .ref (aw_r ad 0)), (2, .ref (aw_m ad 0)), (3, .ref (aw_o ad)), (4, .int (nI (6 * t)))] := hl
                  refine lv_goto (tgt := 853) hx hb d_La_law_701 (by decide) ?_
                  refine lv_iinc (k := 6) (v := nI (6 * t + 6)) hx hb d_La_law_853 hl rfl (aw_inc (6 * t) 6 6 (by decide +kernel)) (by decide) rfl (fun ls hl => ?_)
                  have hl : lv_has ls 8 [(4, .int (nI (6 * t + 6))), (6, .int x323), (5, .int (nI 2)), (0, .ref b), (1, .ref (aw_r ad 0)), (2, .ref (aw_m ad 0)), (3, .ref (aw_o ad))] := hl
                  refine lv_goto (tgt := 23) hx hb d_La_law_856 (by decide) ?_
                  have hl := lv_sub hl (l' := [(0, .ref b), (1, .ref (aw_r ad 0)), (2, .ref (aw_m ad 0)), (3, .ref (aw_o ad)), (4, .int (nI (6 * t + 6)))]) [3, 4, 5, 6, 0] rfl
                  refine W.widen (k := 85 + (t + 1)) (n := 1246 + 6 * (t + 1)) (by omega) (by omega) ?_
                  exact ih (t + 1) zG zO zX zY zA zB zM zI zL zK zN (nI 2) zQ _ _ L ls (by omega) hP hD hSh hR hS (by first | exact hl | simpa [Nat.mul_add] using hl)
                refine lv_if_eq (tgt := 683) hx hb d_La_law_676 (by decide) (fun h9 => ?_) (fun h9 => ?_)
                · refine lv_iconst (v := nI 0) hx hb d_La_law_683 (by decide +kernel) ?_
                  exact hj320 _ (if_pos h9)
                · refine lv_iconst (v := nI 1) hx hb d_La_law_679 (by decide +kernel) ?_
                  refine lv_goto (tgt := 684) hx hb d_La_law_680 (by decide) ?_
                  exact hj320 _ (if_neg h9)
              refine lv_if_eq (tgt := 644) hx hb d_La_law_637 (by decide) (fun h9 => ?_) (fun h9 => ?_)
              · refine lv_iconst (v := nI 0) hx hb d_La_law_644 (by decide +kernel) ?_
                exact hj317 _ (if_pos h9)
              · refine lv_iconst (v := nI 1) hx hb d_La_law_640 (by decide +kernel) ?_
                refine lv_goto (tgt := 645) hx hb d_La_law_641 (by decide) ?_
                exact hj317 _ (if_neg h9)
        · by_cases hs : (zG j).1 = 3
          · by_cases h5 : (zG j).2 = 5
            · refine lv_aload_n hx hb d_La_law_624 rfl (lv_at hl 1 rfl) ?_
              refine lv_aload_n hx hb d_La_law_625 rfl (lv_at hl 0 rfl) ?_
              refine lv_iload hx hb d_La_law_626 (lv_at hl 4 rfl) ?_
              refine lv_iconst (v := nI 1) hx hb d_La_law_628 (by decide +kernel) ?_
              refine lv_iadd hx hb d_La_law_629 ?_
              refine aw_ti (nI_add (6 * t) 1) ?_
              refine va_sld hx hb hX hbl hbA hS (i := (nI ((6 * t) + 1))) (vp_in_nI (by omega) (by omega)) d_La_law_630 ?_
              refine aw_ti (y := nI j) (by rw [nI_clamp (by omega)]; exact hc0.symm) ?_
              refine lv_aload_n hx hb d_La_law_631 rfl (lv_at hl 0 rfl) ?_
              refine lv_iload hx hb d_La_law_632 (lv_at hl 4 rfl) ?_
              refine lv_iconst (v := nI 2) hx hb d_La_law_634 (by decide +kernel) ?_
              refine lv_iadd hx hb d_La_law_635 ?_
              refine aw_ti (nI_add (6 * t) 2) ?_
              refine va_sld hx hb hX hbl hbA hS (i := (nI ((6 * t) + 2))) (vp_in_nI (by omega) (by omega)) d_La_law_636 ?_
              refine aw_ti (y := s2) (by rw [nI_clamp (by omega)]; exact hs2.symm) ?_
              have hj324 : ∀ x325 : Int32, (if s2 = 0 then nI 0 else nI 1) = x325 → W p l e room_1 s m #[Value.ref b] below meth c H locs (85 + t) (1246 + 6 * t) (lw_Z below #[Value.ref b] s) (F0 m 645 ls [.int x325, .int (nI j), .ref (aw_r ad 0)]) := by
                intro x325 ebx325
                refine lv_aload_n hx hb d_La_law_645 rfl (lv_at hl 0 rfl) ?_
                refine lv_iload hx hb d_La_law_646 (lv_at hl 4 rfl) ?_
                refine lv_iconst (v := nI 3) hx hb d_La_law_648 (by decide +kernel) ?_
                refine lv_iadd hx hb d_La_law_649 ?_
                refine aw_ti (nI_add (6 * t) 3) ?_
                refine va_sld hx hb hX hbl hbA hS (i := (nI ((6 * t) + 3))) (vp_in_nI (by omega) (by omega)) d_La_law_650 ?_
                refine aw_ti (y := nI k) (by rw [nI_clamp (by omega)]; exact hfr.symm) ?_
                refine lv_aload_n hx hb d_La_law_651 rfl (lv_at hl 0 rfl) ?_
                refine lv_iload hx hb d_La_law_652 (lv_at hl 4 rfl) ?_
                refine lv_iconst (v := nI 4) hx hb d_La_law_654 (by decide +kernel) ?_
                refine lv_iadd hx hb d_La_law_655 ?_
                refine aw_ti (nI_add (6 * t) 4) ?_
                refine va_sld hx hb hX hbl hbA hS (i := (nI ((6 * t) + 4))) (vp_in_nI (by omega) (by omega)) d_La_law_656 ?_
                refine aw_ti (y := nI mm) (by rw [nI_clamp (by omega)]; exact hm0.symm) ?_
                refine lv_aload_n hx hb d_La_law_657 rfl (lv_at hl 3 rfl) ?_
                refine va_calli (vx_runSW (As := [.ref (aw_r ad 0), .int (nI j), .int x325, .int (nI k), .int (nI mm), .ref (aw_o ad)]) (rest := []) ⟨hx, hb, hml, hown, hG⟩ (k_La_feedXs1V l hst D g ad N0 zG zO zX zY zA zB zM zI zL zK zN zF zQ j x325 k mm hj (by omega) (by omega) (by omega)) (aw_wW 6 hG gw_7_42 gw_7_40 gw_0_0 gw_7_41 rfl rfl hd_La_feed ⟨Nat.le_of_ble_eq_true rfl, Nat.le_of_ble_eq_true rfl⟩) (ag_qS hP hD hSh hU hS) rfl rfl hl.1 rfl (lv_room (Nat.le_of_ble_eq_true rfl)) d_La_law_658 ⟨by omega, by omega⟩) hS (fun _ _ h => h) (fun _ h => h) ?_
                clear hP hD hSh hS
                intro x326 u8 t8 H locs ht _ ex326 hB _ _ hS
                obtain ⟨L, hP, hD, hSh⟩ := hB
                rw [ht] at hP
                clear ht
                subst ex326
                refine lv_istore hx hb d_La_law_661 hl (by decide) rfl (fun ls hl => ?_)
                have hl : lv_has ls 8 [(5, .int (nI 2)), (0, .ref b), (1, .ref (aw_r ad 0)), (2, .ref (aw_m ad 0)), (3, .ref (aw_o ad)), (4, .int (nI (6 * t)))] := hl
                refine lv_aload_n hx hb d_La_law_663 rfl (lv_at hl 3 rfl) ?_
                refine lv_aload_n hx hb d_La_law_664 rfl (lv_at hl 1 rfl) ?_
                refine lv_iload hx hb d_La_law_665 (lv_at hl 5 rfl) ?_
                refine lv_iconst (v := nI 1) hx hb d_La_law_667 (by decide +kernel) ?_
                refine lv_iadd hx hb d_La_law_668 ?_
                refine aw_ti (nI_add (6 * t) 1) ?_
                refine va_sld hx hb hX hbl hbA hS (i := (nI ((6 * t) + 1))) (vp_in_nI (by omega) (by omega)) d_La_law_669 ?_
                refine aw_ti (y := nI j) (by rw [nI_clamp (by omega)]; exact hc0.symm) ?_
                refine lv_aload_n hx hb d_La_law_670 rfl (lv_at hl 1 rfl) ?_
                refine lv_iload hx hb d_La_law_671 (lv_at hl 5 rfl) ?_
                refine lv_iconst (v := nI 2) hx hb d_La_law_673 (by decide +kernel) ?_
                refine lv_iadd hx hb d_La_law_674 ?_
                refine aw_ti (nI_add (6 * t) 2) ?_
                refine va_sld hx hb hX hbl hbA hS (i := (nI ((6 * t) + 2))) (vp_in_nI (by omega) (by omega)) d_La_law_675 ?_
                refine aw_ti (y := s2) (by rw [nI_clamp (by omega)]; exact hs2.symm) ?_
                have hj327 : ∀ x328 : Int32, (if s2 = 0 then nI 0 else nI 1) = x328 → W p l e room_1 s m #[Value.ref b] below meth c H locs ((85 + t) + 1) ((1246 + 6 * t) + 6) (lw_Z below #[Value.ref b] s) (F0 m 684 ls [.int x328, .int (nI j), .ref (aw_m ad 0)]) := by
                  intro x328 ebx328
                  refine lv_aload_n hx hb d_La_law_684 rfl (lv_at hl 1 rfl) ?_
                  refine lv_iload hx hb d_La_law_685 (lv_at hl 5 rfl) ?_
                  refine lv_iconst (v := nI 3) hx hb d_La_law_687 (by decide +kernel) ?_
                  refine lv_iadd hx hb d_La_law_688 ?_
                  refine aw_ti (nI_add (6 * t) 3) ?_
                  refine va_sld hx hb hX hbl hbA hS (i := (nI ((6 * t) + 3))) (vp_in_nI (by omega) (by omega)) d_La_law_689 ?_
                  refine aw_ti (y := nI k) (by rw [nI_clamp (by omega)]; exact hfr.symm) ?_
                  refine lv_aload_n hx hb d_La_law_690 rfl (lv_at hl 1 rfl) ?_
                  refine lv_iload hx hb d_La_law_691 (lv_at hl 5 rfl) ?_
                  refine lv_iconst (v := nI 4) hx hb d_La_law_693 (by decide +kernel) ?_
                  refine lv_iadd hx hb d_La_law_694 ?_
                  refine aw_ti (nI_add (6 * t) 4) ?_
                  refine va_sld hx hb hX hbl hbA hS (i := (nI ((6 * t) + 4))) (vp_in_nI (by omega) (by omega)) d_La_law_695 ?_
                  refine aw_ti (y := nI mm) (by rw [nI_clamp (by omega)]; exact hm0.symm) ?_
                  obtain ⟨_, he329⟩ := zr_M0 hSh
                  refine va_calli (va_runV (As := [.int (nI j), .int x328, .int (nI k), .int (nI mm)]) (rest := []) ⟨hx, hb, hml, hown, hG⟩ (k_Mo_feedXsV l D g ad N0 zG zO zX zY zA zB zM zI zL zK zN zF zQ j x328 k mm hj (by omega) (by omega)) (aw_wV 4 hG gw_12_26 gw_12_23 gw_0_10 gw_12_24 gw_12_25 rfl rfl hd_Mo_feed ⟨Nat.le_of_ble_eq_true rfl, Nat.le_of_ble_eq_true rfl⟩) (ag_qV (va_recv hK hP rfl he329) hP hD hSh hU hS) rfl rfl hl.1 rfl (lv_room (Nat.le_of_ble_eq_true rfl)) d_La_law_696 ⟨by omega, by omega⟩) hS (fun _ _ h => h) (fun _ h => h) ?_
                  clear hP hD hSh hS he329
                  intro x330 u8 t8 H locs ht _ ex330 hB _ _ hS
                  obtain ⟨L, hP, hD, hSh⟩ := hB
                  rw [ht] at hP
                  clear ht
                  have ex330 := ex330.symm
                  refine lv_istore hx hb d_La_law_699 hl (by decide) rfl (fun ls hl => ?_)
                  have hl : lv_has ls 8 [(6, .int x330), (5, .int (nI 2)), (0, .ref b), (1, .ref (aw_r ad 0)), (2, .ref (aw_m ad 0)), (3, .ref (aw_o ad)), (4, .int (nI (6 * t)))] := hl
                  refine lv_goto (tgt := 853) hx hb d_La_law_701 (by decide) ?_
                  refine lv_iinc (k := 6) (v := nI (6 * t + 6)) hx hb d_La_law_853 hl rfl (aw_inc (6 * t) 6 6 (by decide +kernel)) (by decide) rfl (fun ls hl => ?_)
                  have hl : lv_has ls 8 [(4, .int (nI (6 * t + 6))), (6, .int x330), (5, .int (nI 2)), (0, .ref b), (1, .ref (aw_r ad 0)), (2, .ref (aw_m ad 0)), (3, .ref (aw_o ad))] := hl
                  refine lv_goto (tgt := 23) hx hb d_La_law_856 (by decide) ?_
                  have hl := lv_sub hl (l' := [(0, .ref b), (1, .ref (aw_r ad 0)), (2, .ref (aw_m ad 0)), (3, .ref (aw_o ad)), (4, .int (nI (6 * t + 6)))]) [3, 4, 5, 6, 0] rfl
                  refine W.widen (k := 85 + (t + 1)) (n := 1246 + 6 * (t + 1)) (by omega) (by omega) ?_
                  exact ih (t + 1) zG zO zX zY zA zB zM zI zL zK zN (nI 2) zQ _ _ L ls (by omega) hP hD hSh hR hS (by first | exact hl | simpa [Nat.mul_add] using hl)
                refine lv_if_eq (tgt := 683) hx hb d_La_law_676 (by decide) (fun h9 => ?_) (fun h9 => ?_)
                · refine lv_iconst (v := nI 0) hx hb d_La_law_683 (by decide +kernel) ?_
                  exact hj327 _ (if_pos h9)
                · refine lv_iconst (v := nI 1) hx hb d_La_law_679 (by decide +kernel) ?_
                  refine lv_goto (tgt := 684) hx hb d_La_law_680 (by decide) ?_
                  exact hj327 _ (if_neg h9)
              refine lv_if_eq (tgt := 644) hx hb d_La_law_637 (by decide) (fun h9 => ?_) (fun h9 => ?_)
              · refine lv_iconst (v := nI 0) hx hb d_La_law_644 (by decide +kernel) ?_
                exact hj324 _ (if_pos h9)
              · refine lv_iconst (v := nI 1) hx hb d_La_law_640 (by decide +kernel) ?_
                refine lv_goto (tgt := 645) hx hb d_La_law_641 (by decide) ?_
                exact hj324 _ (if_neg h9)
            · by_cases hm : (zG j).2 ≤ 1
              · by_cases h8 : mm % 8 = 0
                · obtain ⟨q, rfl⟩ : ∃ q, mm = 8 * q := ⟨mm / 8, by omega⟩
                  obtain ⟨kc, hkc, hci, hco⟩ := hR.2.1 j hj (by omega)
                  refine lv_aload_n hx hb d_La_law_624 rfl (lv_at hl 1 rfl) ?_
                  refine lv_aload_n hx hb d_La_law_625 rfl (lv_at hl 0 rfl) ?_
                  refine lv_iload hx hb d_La_law_626 (lv_at hl 4 rfl) ?_
                  refine lv_iconst (v := nI 1) hx hb d_La_law_628 (by decide +kernel) ?_
                  refine lv_iadd hx hb d_La_law_629 ?_
                  refine aw_ti (nI_add (6 * t) 1) ?_
                  refine va_sld hx hb hX hbl hbA hS (i := (nI ((6 * t) + 1))) (vp_in_nI (by omega) (by omega)) d_La_law_630 ?_
                  refine aw_ti (y := nI j) (by rw [nI_clamp (by omega)]; exact hc0.symm) ?_
                  refine lv_aload_n hx hb d_La_law_631 rfl (lv_at hl 0 rfl) ?_
                  refine lv_iload hx hb d_La_law_632 (lv_at hl 4 rfl) ?_
                  refine lv_iconst (v := nI 2) hx hb d_La_law_634 (by decide +kernel) ?_
                  refine lv_iadd hx hb d_La_law_635 ?_
                  refine aw_ti (nI_add (6 * t) 2) ?_
                  refine va_sld hx hb hX hbl hbA hS (i := (nI ((6 * t) + 2))) (vp_in_nI (by omega) (by omega)) d_La_law_636 ?_
                  refine aw_ti (y := s2) (by rw [nI_clamp (by omega)]; exact hs2.symm) ?_
                  have hj331 : ∀ x332 : Int32, (if s2 = 0 then nI 0 else nI 1) = x332 → W p l e room_1 s m #[Value.ref b] below meth c H locs (85 + t) (1246 + 6 * t) (lw_Z below #[Value.ref b] s) (F0 m 645 ls [.int x332, .int (nI j), .ref (aw_r ad 0)]) := by
                    intro x332 ebx332
                    refine lv_aload_n hx hb d_La_law_645 rfl (lv_at hl 0 rfl) ?_
                    refine lv_iload hx hb d_La_law_646 (lv_at hl 4 rfl) ?_
                    refine lv_iconst (v := nI 3) hx hb d_La_law_648 (by decide +kernel) ?_
                    refine lv_iadd hx hb d_La_law_649 ?_
                    refine aw_ti (nI_add (6 * t) 3) ?_
                    refine va_sld hx hb hX hbl hbA hS (i := (nI ((6 * t) + 3))) (vp_in_nI (by omega) (by omega)) d_La_law_650 ?_
                    refine aw_ti (y := nI k) (by rw [nI_clamp (by omega)]; exact hfr.symm) ?_
                    refine lv_aload_n hx hb d_La_law_651 rfl (lv_at hl 0 rfl) ?_
                    refine lv_iload hx hb d_La_law_652 (lv_at hl 4 rfl) ?_
                    refine lv_iconst (v := nI 4) hx hb d_La_law_654 (by decide +kernel) ?_
                    refine lv_iadd hx hb d_La_law_655 ?_
                    refine aw_ti (nI_add (6 * t) 4) ?_
                    refine va_sld hx hb hX hbl hbA hS (i := (nI ((6 * t) + 4))) (vp_in_nI (by omega) (by omega)) d_La_law_656 ?_
                    refine aw_ti (y := nI (8 * q)) (by rw [nI_clamp (by omega)]; exact hm0.symm) ?_
                    refine lv_aload_n hx hb d_La_law_657 rfl (lv_at hl 3 rfl) ?_
                    refine va_calli (vx_runSW (As := [.ref (aw_r ad 0), .int (nI j), .int x332, .int (nI k), .int (nI (8 * q)), .ref (aw_o ad)]) (rest := []) ⟨hx, hb, hml, hown, hG⟩ (k_La_feed18V l hst D g ad N0 zG zO zX zY zA zB zM zI zL zK zN zF zQ j x332 k q hj (by omega) (by omega) (by omega) (by omega)) (aw_wW 6 hG gw_7_42 gw_7_40 gw_0_0 gw_7_41 rfl rfl hd_La_feed ⟨Nat.le_of_ble_eq_true rfl, Nat.le_of_ble_eq_true rfl⟩) (ag_qS hP hD hSh hU hS) rfl rfl hl.1 rfl (lv_room (Nat.le_of_ble_eq_true rfl)) d_La_law_658 ⟨by omega, by omega⟩) hS (fun _ _ h => h) (fun _ h => h) ?_
                    clear hP hD hSh hS
                    intro x333 u8 t8 H locs ht _ ex333 hB _ _ hS
                    obtain ⟨L, hP, hD, hSh⟩ := hB
                    rw [ht] at hP
                    clear ht
                    subst ex333
                    obtain ⟨zX334, ezX334⟩ : ∃ z : Nat → Nat → Int64, v_La_feed18V_zX zG zO zX zY zA zB j x332 k q = z := ⟨_, rfl⟩
                    rw [ezX334] at hSh
                    obtain ⟨zY335, ezY335⟩ : ∃ z : Nat → Nat → Int32, v_La_feed18V_zY zG zO zX zY zA zB j x332 k q = z := ⟨_, rfl⟩
                    rw [ezY335] at hSh
                    obtain ⟨zB336, ezB336⟩ : ∃ z : Nat → Int32, v_La_feed18V_zB zG zO zX zY zA zB j x332 k q = z := ⟨_, rfl⟩
                    rw [ezB336] at hSh
                    obtain ⟨zQ337, ezQ337⟩ : ∃ z : Int64, v_La_feed18V_zQ zG zO zX zY zA zB j x332 k q = z := ⟨_, rfl⟩
                    rw [ezQ337] at hSh
                    refine lv_istore hx hb d_La_law_661 hl (by decide) rfl (fun ls hl => ?_)
                    have hl : lv_has ls 8 [(5, .int (nI 0)), (0, .ref b), (1, .ref (aw_r ad 0)), (2, .ref (aw_m ad 0)), (3, .ref (aw_o ad)), (4, .int (nI (6 * t)))] := hl
                    refine lv_aload_n hx hb d_La_law_663 rfl (lv_at hl 3 rfl) ?_
                    refine lv_aload_n hx hb d_La_law_664 rfl (lv_at hl 1 rfl) ?_
                    refine lv_iload hx hb d_La_law_665 (lv_at hl 5 rfl) ?_
                    refine lv_iconst (v := nI 1) hx hb d_La_law_667 (by decide +kernel) ?_
                    refine lv_iadd hx hb d_La_law_668 ?_
                    refine aw_ti (nI_add (6 * t) 1) ?_
                    refine va_sld hx hb hX hbl hbA hS (i := (nI ((6 * t) + 1))) (vp_in_nI (by omega) (by omega)) d_La_law_669 ?_
                    refine aw_ti (y := nI j) (by rw [nI_clamp (by omega)]; exact hc0.symm) ?_
                    refine lv_aload_n hx hb d_La_law_670 rfl (lv_at hl 1 rfl) ?_
                    refine lv_iload hx hb d_La_law_671 (lv_at hl 5 rfl) ?_
                    refine lv_iconst (v := nI 2) hx hb d_La_law_673 (by decide +kernel) ?_
                    refine lv_iadd hx hb d_La_law_674 ?_
                    refine aw_ti (nI_add (6 * t) 2) ?_
                    refine va_sld hx hb hX hbl hbA hS (i := (nI ((6 * t) + 2))) (vp_in_nI (by omega) (by omega)) d_La_law_675 ?_
                    refine aw_ti (y := s2) (by rw [nI_clamp (by omega)]; exact hs2.symm) ?_
                    have hj338 : ∀ x339 : Int32, (if s2 = 0 then nI 0 else nI 1) = x339 → W p l e room_1 s m #[Value.ref b] below meth c H locs ((85 + t) + 1) ((1246 + 6 * t) + 6) (lw_Z below #[Value.ref b] s) (F0 m 684 ls [.int x339, .int (nI j), .ref (aw_m ad 0)]) := by
                      intro x339 ebx339
                      refine lv_aload_n hx hb d_La_law_684 rfl (lv_at hl 1 rfl) ?_
                      refine lv_iload hx hb d_La_law_685 (lv_at hl 5 rfl) ?_
                      refine lv_iconst (v := nI 3) hx hb d_La_law_687 (by decide +kernel) ?_
                      refine lv_iadd hx hb d_La_law_688 ?_
                      refine aw_ti (nI_add (6 * t) 3) ?_
                      refine va_sld hx hb hX hbl hbA hS (i := (nI ((6 * t) + 3))) (vp_in_nI (by omega) (by omega)) d_La_law_689 ?_
                      refine aw_ti (y := nI k) (by rw [nI_clamp (by omega)]; exact hfr.symm) ?_
                      refine lv_aload_n hx hb d_La_law_690 rfl (lv_at hl 1 rfl) ?_
                      refine lv_iload hx hb d_La_law_691 (lv_at hl 5 rfl) ?_
                      refine lv_iconst (v := nI 4) hx hb d_La_law_693 (by decide +kernel) ?_
                      refine lv_iadd hx hb d_La_law_694 ?_
                      refine aw_ti (nI_add (6 * t) 4) ?_
                      refine va_sld hx hb hX hbl hbA hS (i := (nI ((6 * t) + 4))) (vp_in_nI (by omega) (by omega)) d_La_law_695 ?_
                      refine aw_ti (y := nI (8 * q)) (by rw [nI_clamp (by omega)]; exact hm0.symm) ?_
                      obtain ⟨_, he340⟩ := zr_M0 hSh
                      refine va_calli (va_runV (As := [.int (nI j), .int x339, .int (nI k), .int (nI (8 * q))]) (rest := []) ⟨hx, hb, hml, hown, hG⟩ (k_Mo_feed8V l D g ad N0 zG zO zX334 zY335 zA zB336 zM zI zL zK zN zF zQ337 j kc x339 k (8 * q) hj (by omega) (by omega) (by omega) (by omega) hkc hci) (aw_wV 4 hG gw_12_26 gw_12_23 gw_0_10 gw_12_24 gw_12_25 rfl rfl hd_Mo_feed ⟨Nat.le_of_ble_eq_true rfl, Nat.le_of_ble_eq_true rfl⟩) (ag_qV (va_recv hK hP rfl he340) hP hD hSh hU hS) rfl rfl hl.1 rfl (lv_room (Nat.le_of_ble_eq_true rfl)) d_La_law_696 ⟨by omega, by omega⟩) hS (fun _ _ h => h) (fun _ h => h) ?_
                      clear hP hD hSh hS he340
                      intro x341 u8 t8 H locs ht _ ex341 hB _ _ hS
                      obtain ⟨L, hP, hD, hSh⟩ := hB
                      rw [ht] at hP
                      clear ht
                      obtain ⟨zI342, ezI342⟩ : ∃ z : Nat → Nat → Int32, v_Mo_feed8V_zI zM zI zL j kc x339 k (8 * q) = z := ⟨_, rfl⟩
                      rw [ezI342] at hSh
                      obtain ⟨zL343, ezL343⟩ : ∃ z : Nat → Nat → Int64, v_Mo_feed8V_zL zM zI zL j kc x339 k (8 * q) = z := ⟨_, rfl⟩
                      rw [ezL343] at hSh
                      have ex341 := ex341.symm
                      refine lv_istore hx hb d_La_law_699 hl (by decide) rfl (fun ls hl => ?_)
                      have hl : lv_has ls 8 [(6, .int x341), (5, .int (nI 0)), (0, .ref b), (1, .ref (aw_r ad 0)), (2, .ref (aw_m ad 0)), (3, .ref (aw_o ad)), (4, .int (nI (6 * t)))] := hl
                      refine lv_goto (tgt := 853) hx hb d_La_law_701 (by decide) ?_
                      refine lv_iinc (k := 6) (v := nI (6 * t + 6)) hx hb d_La_law_853 hl rfl (aw_inc (6 * t) 6 6 (by decide +kernel)) (by decide) rfl (fun ls hl => ?_)
                      have hl : lv_has ls 8 [(4, .int (nI (6 * t + 6))), (6, .int x341), (5, .int (nI 0)), (0, .ref b), (1, .ref (aw_r ad 0)), (2, .ref (aw_m ad 0)), (3, .ref (aw_o ad))] := hl
                      refine lv_goto (tgt := 23) hx hb d_La_law_856 (by decide) ?_
                      have hl := lv_sub hl (l' := [(0, .ref b), (1, .ref (aw_r ad 0)), (2, .ref (aw_m ad 0)), (3, .ref (aw_o ad)), (4, .int (nI (6 * t + 6)))]) [3, 4, 5, 6, 0] rfl
                      refine W.widen (k := 85 + (t + 1)) (n := 1246 + 6 * (t + 1)) (by omega) (by omega) ?_
                      have hR : az_R zG zO zX334 zY335 zA zB336 zM zI342 zL343 := by
                        subst ex341 ezL343 ezI342 ebx339 ezQ337 ezB336 ezY335 ezX334 ebx332
                        exact r_feed18_8 hR hj hs hm h0 hk hkc hci hco
                      exact ih (t + 1) zG zO zX334 zY335 zA zB336 zM zI342 zL343 (nI kc) (az_wn kc) (nI 0) zQ337 _ _ L ls (by omega) hP hD hSh hR hS (by first | exact hl | simpa [Nat.mul_add] using hl)
                    refine lv_if_eq (tgt := 683) hx hb d_La_law_676 (by decide) (fun h9 => ?_) (fun h9 => ?_)
                    · refine lv_iconst (v := nI 0) hx hb d_La_law_683 (by decide +kernel) ?_
                      exact hj338 _ (if_pos h9)
                    · refine lv_iconst (v := nI 1) hx hb d_La_law_679 (by decide +kernel) ?_
                      refine lv_goto (tgt := 684) hx hb d_La_law_680 (by decide) ?_
                      exact hj338 _ (if_neg h9)
                  refine lv_if_eq (tgt := 644) hx hb d_La_law_637 (by decide) (fun h9 => ?_) (fun h9 => ?_)
                  · refine lv_iconst (v := nI 0) hx hb d_La_law_644 (by decide +kernel) ?_
                    exact hj331 _ (if_pos h9)
                  · refine lv_iconst (v := nI 1) hx hb d_La_law_640 (by decide +kernel) ?_
                    refine lv_goto (tgt := 645) hx hb d_La_law_641 (by decide) ?_
                    exact hj331 _ (if_neg h9)
                · refine lv_aload_n hx hb d_La_law_624 rfl (lv_at hl 1 rfl) ?_
                  refine lv_aload_n hx hb d_La_law_625 rfl (lv_at hl 0 rfl) ?_
                  refine lv_iload hx hb d_La_law_626 (lv_at hl 4 rfl) ?_
                  refine lv_iconst (v := nI 1) hx hb d_La_law_628 (by decide +kernel) ?_
                  refine lv_iadd hx hb d_La_law_629 ?_
                  refine aw_ti (nI_add (6 * t) 1) ?_
                  refine va_sld hx hb hX hbl hbA hS (i := (nI ((6 * t) + 1))) (vp_in_nI (by omega) (by omega)) d_La_law_630 ?_
                  refine aw_ti (y := nI j) (by rw [nI_clamp (by omega)]; exact hc0.symm) ?_
                  refine lv_aload_n hx hb d_La_law_631 rfl (lv_at hl 0 rfl) ?_
                  refine lv_iload hx hb d_La_law_632 (lv_at hl 4 rfl) ?_
                  refine lv_iconst (v := nI 2) hx hb d_La_law_634 (by decide +kernel) ?_
                  refine lv_iadd hx hb d_La_law_635 ?_
                  refine aw_ti (nI_add (6 * t) 2) ?_
                  refine va_sld hx hb hX hbl hbA hS (i := (nI ((6 * t) + 2))) (vp_in_nI (by omega) (by omega)) d_La_law_636 ?_
                  refine aw_ti (y := s2) (by rw [nI_clamp (by omega)]; exact hs2.symm) ?_
                  have hj344 : ∀ x345 : Int32, (if s2 = 0 then nI 0 else nI 1) = x345 → W p l e room_1 s m #[Value.ref b] below meth c H locs (85 + t) (1246 + 6 * t) (lw_Z below #[Value.ref b] s) (F0 m 645 ls [.int x345, .int (nI j), .ref (aw_r ad 0)]) := by
                    intro x345 ebx345
                    refine lv_aload_n hx hb d_La_law_645 rfl (lv_at hl 0 rfl) ?_
                    refine lv_iload hx hb d_La_law_646 (lv_at hl 4 rfl) ?_
                    refine lv_iconst (v := nI 3) hx hb d_La_law_648 (by decide +kernel) ?_
                    refine lv_iadd hx hb d_La_law_649 ?_
                    refine aw_ti (nI_add (6 * t) 3) ?_
                    refine va_sld hx hb hX hbl hbA hS (i := (nI ((6 * t) + 3))) (vp_in_nI (by omega) (by omega)) d_La_law_650 ?_
                    refine aw_ti (y := nI k) (by rw [nI_clamp (by omega)]; exact hfr.symm) ?_
                    refine lv_aload_n hx hb d_La_law_651 rfl (lv_at hl 0 rfl) ?_
                    refine lv_iload hx hb d_La_law_652 (lv_at hl 4 rfl) ?_
                    refine lv_iconst (v := nI 4) hx hb d_La_law_654 (by decide +kernel) ?_
                    refine lv_iadd hx hb d_La_law_655 ?_
                    refine aw_ti (nI_add (6 * t) 4) ?_
                    refine va_sld hx hb hX hbl hbA hS (i := (nI ((6 * t) + 4))) (vp_in_nI (by omega) (by omega)) d_La_law_656 ?_
                    refine aw_ti (y := nI mm) (by rw [nI_clamp (by omega)]; exact hm0.symm) ?_
                    refine lv_aload_n hx hb d_La_law_657 rfl (lv_at hl 3 rfl) ?_
                    refine va_calli (vx_runSW (As := [.ref (aw_r ad 0), .int (nI j), .int x345, .int (nI k), .int (nI mm), .ref (aw_o ad)]) (rest := []) ⟨hx, hb, hml, hown, hG⟩ (k_La_feedXaV l hst D g ad N0 zG zO zX zY zA zB zM zI zL zK zN zF zQ j x345 k mm hj (by omega) (by omega) (by omega) (by omega) (by omega)) (aw_wW 6 hG gw_7_42 gw_7_40 gw_0_0 gw_7_41 rfl rfl hd_La_feed ⟨Nat.le_of_ble_eq_true rfl, Nat.le_of_ble_eq_true rfl⟩) (ag_qS hP hD hSh hU hS) rfl rfl hl.1 rfl (lv_room (Nat.le_of_ble_eq_true rfl)) d_La_law_658 ⟨by omega, by omega⟩) hS (fun _ _ h => h) (fun _ h => h) ?_
                    clear hP hD hSh hS
                    intro x346 u8 t8 H locs ht _ ex346 hB _ _ hS
                    obtain ⟨L, hP, hD, hSh⟩ := hB
                    rw [ht] at hP
                    clear ht
                    subst ex346
                    refine lv_istore hx hb d_La_law_661 hl (by decide) rfl (fun ls hl => ?_)
                    have hl : lv_has ls 8 [(5, .int (nI 3)), (0, .ref b), (1, .ref (aw_r ad 0)), (2, .ref (aw_m ad 0)), (3, .ref (aw_o ad)), (4, .int (nI (6 * t)))] := hl
                    refine lv_aload_n hx hb d_La_law_663 rfl (lv_at hl 3 rfl) ?_
                    refine lv_aload_n hx hb d_La_law_664 rfl (lv_at hl 1 rfl) ?_
                    refine lv_iload hx hb d_La_law_665 (lv_at hl 5 rfl) ?_
                    refine lv_iconst (v := nI 1) hx hb d_La_law_667 (by decide +kernel) ?_
                    refine lv_iadd hx hb d_La_law_668 ?_
                    refine aw_ti (nI_add (6 * t) 1) ?_
                    refine va_sld hx hb hX hbl hbA hS (i := (nI ((6 * t) + 1))) (vp_in_nI (by omega) (by omega)) d_La_law_669 ?_
                    refine aw_ti (y := nI j) (by rw [nI_clamp (by omega)]; exact hc0.symm) ?_
                    refine lv_aload_n hx hb d_La_law_670 rfl (lv_at hl 1 rfl) ?_
                    refine lv_iload hx hb d_La_law_671 (lv_at hl 5 rfl) ?_
                    refine lv_iconst (v := nI 2) hx hb d_La_law_673 (by decide +kernel) ?_
                    refine lv_iadd hx hb d_La_law_674 ?_
                    refine aw_ti (nI_add (6 * t) 2) ?_
                    refine va_sld hx hb hX hbl hbA hS (i := (nI ((6 * t) + 2))) (vp_in_nI (by omega) (by omega)) d_La_law_675 ?_
                    refine aw_ti (y := s2) (by rw [nI_clamp (by omega)]; exact hs2.symm) ?_
                    have hj347 : ∀ x348 : Int32, (if s2 = 0 then nI 0 else nI 1) = x348 → W p l e room_1 s m #[Value.ref b] below meth c H locs ((85 + t) + 1) ((1246 + 6 * t) + 6) (lw_Z below #[Value.ref b] s) (F0 m 684 ls [.int x348, .int (nI j), .ref (aw_m ad 0)]) := by
                      intro x348 ebx348
                      refine lv_aload_n hx hb d_La_law_684 rfl (lv_at hl 1 rfl) ?_
                      refine lv_iload hx hb d_La_law_685 (lv_at hl 5 rfl) ?_
                      refine lv_iconst (v := nI 3) hx hb d_La_law_687 (by decide +kernel) ?_
                      refine lv_iadd hx hb d_La_law_688 ?_
                      refine aw_ti (nI_add (6 * t) 3) ?_
                      refine va_sld hx hb hX hbl hbA hS (i := (nI ((6 * t) + 3))) (vp_in_nI (by omega) (by omega)) d_La_law_689 ?_
                      refine aw_ti (y := nI k) (by rw [nI_clamp (by omega)]; exact hfr.symm) ?_
                      refine lv_aload_n hx hb d_La_law_690 rfl (lv_at hl 1 rfl) ?_
                      refine lv_iload hx hb d_La_law_691 (lv_at hl 5 rfl) ?_
                      refine lv_iconst (v := nI 4) hx hb d_La_law_693 (by decide +kernel) ?_
                      refine lv_iadd hx hb d_La_law_694 ?_
                      refine aw_ti (nI_add (6 * t) 4) ?_
                      refine va_sld hx hb hX hbl hbA hS (i := (nI ((6 * t) + 4))) (vp_in_nI (by omega) (by omega)) d_La_law_695 ?_
                      refine aw_ti (y := nI mm) (by rw [nI_clamp (by omega)]; exact hm0.symm) ?_
                      obtain ⟨_, he349⟩ := zr_M0 hSh
                      refine va_calli (va_runV (As := [.int (nI j), .int x348, .int (nI k), .int (nI mm)]) (rest := []) ⟨hx, hb, hml, hown, hG⟩ (k_Mo_feedXaV l D g ad N0 zG zO zX zY zA zB zM zI zL zK zN zF zQ j x348 k mm hj (by omega) (by omega) (by omega) (by omega)) (aw_wV 4 hG gw_12_26 gw_12_23 gw_0_10 gw_12_24 gw_12_25 rfl rfl hd_Mo_feed ⟨Nat.le_of_ble_eq_true rfl, Nat.le_of_ble_eq_true rfl⟩) (ag_qV (va_recv hK hP rfl he349) hP hD hSh hU hS) rfl rfl hl.1 rfl (lv_room (Nat.le_of_ble_eq_true rfl)) d_La_law_696 ⟨by omega, by omega⟩) hS (fun _ _ h => h) (fun _ h => h) ?_
                      clear hP hD hSh hS he349
                      intro x350 u8 t8 H locs ht _ ex350 hB _ _ hS
                      obtain ⟨L, hP, hD, hSh⟩ := hB
                      rw [ht] at hP
                      clear ht
                      have ex350 := ex350.symm
                      refine lv_istore hx hb d_La_law_699 hl (by decide) rfl (fun ls hl => ?_)
                      have hl : lv_has ls 8 [(6, .int x350), (5, .int (nI 3)), (0, .ref b), (1, .ref (aw_r ad 0)), (2, .ref (aw_m ad 0)), (3, .ref (aw_o ad)), (4, .int (nI (6 * t)))] := hl
                      refine lv_goto (tgt := 853) hx hb d_La_law_701 (by decide) ?_
                      refine lv_iinc (k := 6) (v := nI (6 * t + 6)) hx hb d_La_law_853 hl rfl (aw_inc (6 * t) 6 6 (by decide +kernel)) (by decide) rfl (fun ls hl => ?_)
                      have hl : lv_has ls 8 [(4, .int (nI (6 * t + 6))), (6, .int x350), (5, .int (nI 3)), (0, .ref b), (1, .ref (aw_r ad 0)), (2, .ref (aw_m ad 0)), (3, .ref (aw_o ad))] := hl
                      refine lv_goto (tgt := 23) hx hb d_La_law_856 (by decide) ?_
                      have hl := lv_sub hl (l' := [(0, .ref b), (1, .ref (aw_r ad 0)), (2, .ref (aw_m ad 0)), (3, .ref (aw_o ad)), (4, .int (nI (6 * t + 6)))]) [3, 4, 5, 6, 0] rfl
                      refine W.widen (k := 85 + (t + 1)) (n := 1246 + 6 * (t + 1)) (by omega) (by omega) ?_
                      exact ih (t + 1) zG zO zX zY zA zB zM zI zL zK zN (nI 3) zQ _ _ L ls (by omega) hP hD hSh hR hS (by first | exact hl | simpa [Nat.mul_add] using hl)
                    refine lv_if_eq (tgt := 683) hx hb d_La_law_676 (by decide) (fun h9 => ?_) (fun h9 => ?_)
                    · refine lv_iconst (v := nI 0) hx hb d_La_law_683 (by decide +kernel) ?_
                      exact hj347 _ (if_pos h9)
                    · refine lv_iconst (v := nI 1) hx hb d_La_law_679 (by decide +kernel) ?_
                      refine lv_goto (tgt := 684) hx hb d_La_law_680 (by decide) ?_
                      exact hj347 _ (if_neg h9)
                  refine lv_if_eq (tgt := 644) hx hb d_La_law_637 (by decide) (fun h9 => ?_) (fun h9 => ?_)
                  · refine lv_iconst (v := nI 0) hx hb d_La_law_644 (by decide +kernel) ?_
                    exact hj344 _ (if_pos h9)
                  · refine lv_iconst (v := nI 1) hx hb d_La_law_640 (by decide +kernel) ?_
                    refine lv_goto (tgt := 645) hx hb d_La_law_641 (by decide) ?_
                    exact hj344 _ (if_neg h9)
              · obtain ⟨kc, hkc, hci, hco⟩ := hR.2.1 j hj (by omega)
                refine lv_aload_n hx hb d_La_law_624 rfl (lv_at hl 1 rfl) ?_
                refine lv_aload_n hx hb d_La_law_625 rfl (lv_at hl 0 rfl) ?_
                refine lv_iload hx hb d_La_law_626 (lv_at hl 4 rfl) ?_
                refine lv_iconst (v := nI 1) hx hb d_La_law_628 (by decide +kernel) ?_
                refine lv_iadd hx hb d_La_law_629 ?_
                refine aw_ti (nI_add (6 * t) 1) ?_
                refine va_sld hx hb hX hbl hbA hS (i := (nI ((6 * t) + 1))) (vp_in_nI (by omega) (by omega)) d_La_law_630 ?_
                refine aw_ti (y := nI j) (by rw [nI_clamp (by omega)]; exact hc0.symm) ?_
                refine lv_aload_n hx hb d_La_law_631 rfl (lv_at hl 0 rfl) ?_
                refine lv_iload hx hb d_La_law_632 (lv_at hl 4 rfl) ?_
                refine lv_iconst (v := nI 2) hx hb d_La_law_634 (by decide +kernel) ?_
                refine lv_iadd hx hb d_La_law_635 ?_
                refine aw_ti (nI_add (6 * t) 2) ?_
                refine va_sld hx hb hX hbl hbA hS (i := (nI ((6 * t) + 2))) (vp_in_nI (by omega) (by omega)) d_La_law_636 ?_
                refine aw_ti (y := s2) (by rw [nI_clamp (by omega)]; exact hs2.symm) ?_
                have hj351 : ∀ x352 : Int32, (if s2 = 0 then nI 0 else nI 1) = x352 → W p l e room_1 s m #[Value.ref b] below meth c H locs (85 + t) (1246 + 6 * t) (lw_Z below #[Value.ref b] s) (F0 m 645 ls [.int x352, .int (nI j), .ref (aw_r ad 0)]) := by
                  intro x352 ebx352
                  refine lv_aload_n hx hb d_La_law_645 rfl (lv_at hl 0 rfl) ?_
                  refine lv_iload hx hb d_La_law_646 (lv_at hl 4 rfl) ?_
                  refine lv_iconst (v := nI 3) hx hb d_La_law_648 (by decide +kernel) ?_
                  refine lv_iadd hx hb d_La_law_649 ?_
                  refine aw_ti (nI_add (6 * t) 3) ?_
                  refine va_sld hx hb hX hbl hbA hS (i := (nI ((6 * t) + 3))) (vp_in_nI (by omega) (by omega)) d_La_law_650 ?_
                  refine aw_ti (y := nI k) (by rw [nI_clamp (by omega)]; exact hfr.symm) ?_
                  refine lv_aload_n hx hb d_La_law_651 rfl (lv_at hl 0 rfl) ?_
                  refine lv_iload hx hb d_La_law_652 (lv_at hl 4 rfl) ?_
                  refine lv_iconst (v := nI 4) hx hb d_La_law_654 (by decide +kernel) ?_
                  refine lv_iadd hx hb d_La_law_655 ?_
                  refine aw_ti (nI_add (6 * t) 4) ?_
                  refine va_sld hx hb hX hbl hbA hS (i := (nI ((6 * t) + 4))) (vp_in_nI (by omega) (by omega)) d_La_law_656 ?_
                  refine aw_ti (y := nI mm) (by rw [nI_clamp (by omega)]; exact hm0.symm) ?_
                  refine lv_aload_n hx hb d_La_law_657 rfl (lv_at hl 3 rfl) ?_
                  refine va_calli (vx_runSW (As := [.ref (aw_r ad 0), .int (nI j), .int x352, .int (nI k), .int (nI mm), .ref (aw_o ad)]) (rest := []) ⟨hx, hb, hml, hown, hG⟩ (k_La_feed11V l hst D g ad N0 zG zO zX zY zA zB zM zI zL zK zN zF zQ j x352 k mm hj (by omega) (by omega) (by omega) (by omega) (by omega)) (aw_wW 6 hG gw_7_42 gw_7_40 gw_0_0 gw_7_41 rfl rfl hd_La_feed ⟨Nat.le_of_ble_eq_true rfl, Nat.le_of_ble_eq_true rfl⟩) (ag_qS hP hD hSh hU hS) rfl rfl hl.1 rfl (lv_room (Nat.le_of_ble_eq_true rfl)) d_La_law_658 ⟨by omega, by omega⟩) hS (fun _ _ h => h) (fun _ h => h) ?_
                  clear hP hD hSh hS
                  intro x353 u8 t8 H locs ht _ ex353 hB _ _ hS
                  obtain ⟨L, hP, hD, hSh⟩ := hB
                  rw [ht] at hP
                  clear ht
                  subst ex353
                  obtain ⟨zX354, ezX354⟩ : ∃ z : Nat → Nat → Int64, v_La_feed11V_zX zG zO zX zY zA zB j x352 k mm = z := ⟨_, rfl⟩
                  rw [ezX354] at hSh
                  obtain ⟨zY355, ezY355⟩ : ∃ z : Nat → Nat → Int32, v_La_feed11V_zY zG zO zX zY zA zB j x352 k mm = z := ⟨_, rfl⟩
                  rw [ezY355] at hSh
                  obtain ⟨zB356, ezB356⟩ : ∃ z : Nat → Int32, v_La_feed11V_zB zG zO zX zY zA zB j x352 k mm = z := ⟨_, rfl⟩
                  rw [ezB356] at hSh
                  obtain ⟨zQ357, ezQ357⟩ : ∃ z : Int64, v_La_feed11V_zQ zG zO zX zY zA zB j x352 k mm = z := ⟨_, rfl⟩
                  rw [ezQ357] at hSh
                  refine lv_istore hx hb d_La_law_661 hl (by decide) rfl (fun ls hl => ?_)
                  have hl : lv_has ls 8 [(5, .int (nI 0)), (0, .ref b), (1, .ref (aw_r ad 0)), (2, .ref (aw_m ad 0)), (3, .ref (aw_o ad)), (4, .int (nI (6 * t)))] := hl
                  refine lv_aload_n hx hb d_La_law_663 rfl (lv_at hl 3 rfl) ?_
                  refine lv_aload_n hx hb d_La_law_664 rfl (lv_at hl 1 rfl) ?_
                  refine lv_iload hx hb d_La_law_665 (lv_at hl 5 rfl) ?_
                  refine lv_iconst (v := nI 1) hx hb d_La_law_667 (by decide +kernel) ?_
                  refine lv_iadd hx hb d_La_law_668 ?_
                  refine aw_ti (nI_add (6 * t) 1) ?_
                  refine va_sld hx hb hX hbl hbA hS (i := (nI ((6 * t) + 1))) (vp_in_nI (by omega) (by omega)) d_La_law_669 ?_
                  refine aw_ti (y := nI j) (by rw [nI_clamp (by omega)]; exact hc0.symm) ?_
                  refine lv_aload_n hx hb d_La_law_670 rfl (lv_at hl 1 rfl) ?_
                  refine lv_iload hx hb d_La_law_671 (lv_at hl 5 rfl) ?_
                  refine lv_iconst (v := nI 2) hx hb d_La_law_673 (by decide +kernel) ?_
                  refine lv_iadd hx hb d_La_law_674 ?_
                  refine aw_ti (nI_add (6 * t) 2) ?_
                  refine va_sld hx hb hX hbl hbA hS (i := (nI ((6 * t) + 2))) (vp_in_nI (by omega) (by omega)) d_La_law_675 ?_
                  refine aw_ti (y := s2) (by rw [nI_clamp (by omega)]; exact hs2.symm) ?_
                  have hj358 : ∀ x359 : Int32, (if s2 = 0 then nI 0 else nI 1) = x359 → W p l e room_1 s m #[Value.ref b] below meth c H locs ((85 + t) + 1) ((1246 + 6 * t) + 6) (lw_Z below #[Value.ref b] s) (F0 m 684 ls [.int x359, .int (nI j), .ref (aw_m ad 0)]) := by
                    intro x359 ebx359
                    refine lv_aload_n hx hb d_La_law_684 rfl (lv_at hl 1 rfl) ?_
                    refine lv_iload hx hb d_La_law_685 (lv_at hl 5 rfl) ?_
                    refine lv_iconst (v := nI 3) hx hb d_La_law_687 (by decide +kernel) ?_
                    refine lv_iadd hx hb d_La_law_688 ?_
                    refine aw_ti (nI_add (6 * t) 3) ?_
                    refine va_sld hx hb hX hbl hbA hS (i := (nI ((6 * t) + 3))) (vp_in_nI (by omega) (by omega)) d_La_law_689 ?_
                    refine aw_ti (y := nI k) (by rw [nI_clamp (by omega)]; exact hfr.symm) ?_
                    refine lv_aload_n hx hb d_La_law_690 rfl (lv_at hl 1 rfl) ?_
                    refine lv_iload hx hb d_La_law_691 (lv_at hl 5 rfl) ?_
                    refine lv_iconst (v := nI 4) hx hb d_La_law_693 (by decide +kernel) ?_
                    refine lv_iadd hx hb d_La_law_694 ?_
                    refine aw_ti (nI_add (6 * t) 4) ?_
                    refine va_sld hx hb hX hbl hbA hS (i := (nI ((6 * t) + 4))) (vp_in_nI (by omega) (by omega)) d_La_law_695 ?_
                    refine aw_ti (y := nI mm) (by rw [nI_clamp (by omega)]; exact hm0.symm) ?_
                    obtain ⟨_, he360⟩ := zr_M0 hSh
                    refine va_calli (va_runV (As := [.int (nI j), .int x359, .int (nI k), .int (nI mm)]) (rest := []) ⟨hx, hb, hml, hown, hG⟩ (k_Mo_feed1V l D g ad N0 zG zO zX354 zY355 zA zB356 zM zI zL zK zN zF zQ357 j kc x359 k mm hj (by omega) (by omega) (by omega) (by omega) hkc hci) (aw_wV 4 hG gw_12_26 gw_12_23 gw_0_10 gw_12_24 gw_12_25 rfl rfl hd_Mo_feed ⟨Nat.le_of_ble_eq_true rfl, Nat.le_of_ble_eq_true rfl⟩) (ag_qV (va_recv hK hP rfl he360) hP hD hSh hU hS) rfl rfl hl.1 rfl (lv_room (Nat.le_of_ble_eq_true rfl)) d_La_law_696 ⟨by omega, by omega⟩) hS (fun _ _ h => h) (fun _ h => h) ?_
                    clear hP hD hSh hS he360
                    intro x361 u8 t8 H locs ht _ ex361 hB _ _ hS
                    obtain ⟨L, hP, hD, hSh⟩ := hB
                    rw [ht] at hP
                    clear ht
                    obtain ⟨zI362, ezI362⟩ : ∃ z : Nat → Nat → Int32, v_Mo_feed1V_zI zM zI zL j kc x359 k mm = z := ⟨_, rfl⟩
                    rw [ezI362] at hSh
                    obtain ⟨zL363, ezL363⟩ : ∃ z : Nat → Nat → Int64, v_Mo_feed1V_zL zM zI zL j kc x359 k mm = z := ⟨_, rfl⟩
                    rw [ezL363] at hSh
                    have ex361 := ex361.symm
                    refine lv_istore hx hb d_La_law_699 hl (by decide) rfl (fun ls hl => ?_)
                    have hl : lv_has ls 8 [(6, .int x361), (5, .int (nI 0)), (0, .ref b), (1, .ref (aw_r ad 0)), (2, .ref (aw_m ad 0)), (3, .ref (aw_o ad)), (4, .int (nI (6 * t)))] := hl
                    refine lv_goto (tgt := 853) hx hb d_La_law_701 (by decide) ?_
                    refine lv_iinc (k := 6) (v := nI (6 * t + 6)) hx hb d_La_law_853 hl rfl (aw_inc (6 * t) 6 6 (by decide +kernel)) (by decide) rfl (fun ls hl => ?_)
                    have hl : lv_has ls 8 [(4, .int (nI (6 * t + 6))), (6, .int x361), (5, .int (nI 0)), (0, .ref b), (1, .ref (aw_r ad 0)), (2, .ref (aw_m ad 0)), (3, .ref (aw_o ad))] := hl
                    refine lv_goto (tgt := 23) hx hb d_La_law_856 (by decide) ?_
                    have hl := lv_sub hl (l' := [(0, .ref b), (1, .ref (aw_r ad 0)), (2, .ref (aw_m ad 0)), (3, .ref (aw_o ad)), (4, .int (nI (6 * t + 6)))]) [3, 4, 5, 6, 0] rfl
                    refine W.widen (k := 85 + (t + 1)) (n := 1246 + 6 * (t + 1)) (by omega) (by omega) ?_
                    have hR : az_R zG zO zX354 zY355 zA zB356 zM zI362 zL363 := by
                      subst ex361 ezL363 ezI362 ebx359 ezQ357 ezB356 ezY355 ezX354 ebx352
                      exact r_feed11_1 hR hj hs (by omega) (by omega) h0 hk hkc hci hco
                    exact ih (t + 1) zG zO zX354 zY355 zA zB356 zM zI362 zL363 (nI kc) (az_wn kc) (nI 0) zQ357 _ _ L ls (by omega) hP hD hSh hR hS (by first | exact hl | simpa [Nat.mul_add] using hl)
                  refine lv_if_eq (tgt := 683) hx hb d_La_law_676 (by decide) (fun h9 => ?_) (fun h9 => ?_)
                  · refine lv_iconst (v := nI 0) hx hb d_La_law_683 (by decide +kernel) ?_
                    exact hj358 _ (if_pos h9)
                  · refine lv_iconst (v := nI 1) hx hb d_La_law_679 (by decide +kernel) ?_
                    refine lv_goto (tgt := 684) hx hb d_La_law_680 (by decide) ?_
                    exact hj358 _ (if_neg h9)
                refine lv_if_eq (tgt := 644) hx hb d_La_law_637 (by decide) (fun h9 => ?_) (fun h9 => ?_)
                · refine lv_iconst (v := nI 0) hx hb d_La_law_644 (by decide +kernel) ?_
                  exact hj351 _ (if_pos h9)
                · refine lv_iconst (v := nI 1) hx hb d_La_law_640 (by decide +kernel) ?_
                  refine lv_goto (tgt := 645) hx hb d_La_law_641 (by decide) ?_
                  exact hj351 _ (if_neg h9)
          · refine lv_aload_n hx hb d_La_law_624 rfl (lv_at hl 1 rfl) ?_
            refine lv_aload_n hx hb d_La_law_625 rfl (lv_at hl 0 rfl) ?_
            refine lv_iload hx hb d_La_law_626 (lv_at hl 4 rfl) ?_
            refine lv_iconst (v := nI 1) hx hb d_La_law_628 (by decide +kernel) ?_
            refine lv_iadd hx hb d_La_law_629 ?_
            refine aw_ti (nI_add (6 * t) 1) ?_
            refine va_sld hx hb hX hbl hbA hS (i := (nI ((6 * t) + 1))) (vp_in_nI (by omega) (by omega)) d_La_law_630 ?_
            refine aw_ti (y := nI j) (by rw [nI_clamp (by omega)]; exact hc0.symm) ?_
            refine lv_aload_n hx hb d_La_law_631 rfl (lv_at hl 0 rfl) ?_
            refine lv_iload hx hb d_La_law_632 (lv_at hl 4 rfl) ?_
            refine lv_iconst (v := nI 2) hx hb d_La_law_634 (by decide +kernel) ?_
            refine lv_iadd hx hb d_La_law_635 ?_
            refine aw_ti (nI_add (6 * t) 2) ?_
            refine va_sld hx hb hX hbl hbA hS (i := (nI ((6 * t) + 2))) (vp_in_nI (by omega) (by omega)) d_La_law_636 ?_
            refine aw_ti (y := s2) (by rw [nI_clamp (by omega)]; exact hs2.symm) ?_
            have hj364 : ∀ x365 : Int32, (if s2 = 0 then nI 0 else nI 1) = x365 → W p l e room_1 s m #[Value.ref b] below meth c H locs (85 + t) (1246 + 6 * t) (lw_Z below #[Value.ref b] s) (F0 m 645 ls [.int x365, .int (nI j), .ref (aw_r ad 0)]) := by
              intro x365 ebx365
              refine lv_aload_n hx hb d_La_law_645 rfl (lv_at hl 0 rfl) ?_
              refine lv_iload hx hb d_La_law_646 (lv_at hl 4 rfl) ?_
              refine lv_iconst (v := nI 3) hx hb d_La_law_648 (by decide +kernel) ?_
              refine lv_iadd hx hb d_La_law_649 ?_
              refine aw_ti (nI_add (6 * t) 3) ?_
              refine va_sld hx hb hX hbl hbA hS (i := (nI ((6 * t) + 3))) (vp_in_nI (by omega) (by omega)) d_La_law_650 ?_
              refine aw_ti (y := nI k) (by rw [nI_clamp (by omega)]; exact hfr.symm) ?_
              refine lv_aload_n hx hb d_La_law_651 rfl (lv_at hl 0 rfl) ?_
              refine lv_iload hx hb d_La_law_652 (lv_at hl 4 rfl) ?_
              refine lv_iconst (v := nI 4) hx hb d_La_law_654 (by decide +kernel) ?_
              refine lv_iadd hx hb d_La_law_655 ?_
              refine aw_ti (nI_add (6 * t) 4) ?_
              refine va_sld hx hb hX hbl hbA hS (i := (nI ((6 * t) + 4))) (vp_in_nI (by omega) (by omega)) d_La_law_656 ?_
              refine aw_ti (y := nI mm) (by rw [nI_clamp (by omega)]; exact hm0.symm) ?_
              refine lv_aload_n hx hb d_La_law_657 rfl (lv_at hl 3 rfl) ?_
              refine va_calli (vx_runSW (As := [.ref (aw_r ad 0), .int (nI j), .int x365, .int (nI k), .int (nI mm), .ref (aw_o ad)]) (rest := []) ⟨hx, hb, hml, hown, hG⟩ (k_La_feedXs1V l hst D g ad N0 zG zO zX zY zA zB zM zI zL zK zN zF zQ j x365 k mm hj (by omega) (by omega) (by omega)) (aw_wW 6 hG gw_7_42 gw_7_40 gw_0_0 gw_7_41 rfl rfl hd_La_feed ⟨Nat.le_of_ble_eq_true rfl, Nat.le_of_ble_eq_true rfl⟩) (ag_qS hP hD hSh hU hS) rfl rfl hl.1 rfl (lv_room (Nat.le_of_ble_eq_true rfl)) d_La_law_658 ⟨by omega, by omega⟩) hS (fun _ _ h => h) (fun _ h => h) ?_
              clear hP hD hSh hS
              intro x366 u8 t8 H locs ht _ ex366 hB _ _ hS
              obtain ⟨L, hP, hD, hSh⟩ := hB
              rw [ht] at hP
              clear ht
              subst ex366
              refine lv_istore hx hb d_La_law_661 hl (by decide) rfl (fun ls hl => ?_)
              have hl : lv_has ls 8 [(5, .int (nI 2)), (0, .ref b), (1, .ref (aw_r ad 0)), (2, .ref (aw_m ad 0)), (3, .ref (aw_o ad)), (4, .int (nI (6 * t)))] := hl
              refine lv_aload_n hx hb d_La_law_663 rfl (lv_at hl 3 rfl) ?_
              refine lv_aload_n hx hb d_La_law_664 rfl (lv_at hl 1 rfl) ?_
              refine lv_iload hx hb d_La_law_665 (lv_at hl 5 rfl) ?_
              refine lv_iconst (v := nI 1) hx hb d_La_law_667 (by decide +kernel) ?_
              refine lv_iadd hx hb d_La_law_668 ?_
              refine aw_ti (nI_add (6 * t) 1) ?_
              refine va_sld hx hb hX hbl hbA hS (i := (nI ((6 * t) + 1))) (vp_in_nI (by omega) (by omega)) d_La_law_669 ?_
              refine aw_ti (y := nI j) (by rw [nI_clamp (by omega)]; exact hc0.symm) ?_
              refine lv_aload_n hx hb d_La_law_670 rfl (lv_at hl 1 rfl) ?_
              refine lv_iload hx hb d_La_law_671 (lv_at hl 5 rfl) ?_
              refine lv_iconst (v := nI 2) hx hb d_La_law_673 (by decide +kernel) ?_
              refine lv_iadd hx hb d_La_law_674 ?_
              refine aw_ti (nI_add (6 * t) 2) ?_
              refine va_sld hx hb hX hbl hbA hS (i := (nI ((6 * t) + 2))) (vp_in_nI (by omega) (by omega)) d_La_law_675 ?_
              refine aw_ti (y := s2) (by rw [nI_clamp (by omega)]; exact hs2.symm) ?_
              have hj367 : ∀ x368 : Int32, (if s2 = 0 then nI 0 else nI 1) = x368 → W p l e room_1 s m #[Value.ref b] below meth c H locs ((85 + t) + 1) ((1246 + 6 * t) + 6) (lw_Z below #[Value.ref b] s) (F0 m 684 ls [.int x368, .int (nI j), .ref (aw_m ad 0)]) := by
                intro x368 ebx368
                refine lv_aload_n hx hb d_La_law_684 rfl (lv_at hl 1 rfl) ?_
                refine lv_iload hx hb d_La_law_685 (lv_at hl 5 rfl) ?_
                refine lv_iconst (v := nI 3) hx hb d_La_law_687 (by decide +kernel) ?_
                refine lv_iadd hx hb d_La_law_688 ?_
                refine aw_ti (nI_add (6 * t) 3) ?_
                refine va_sld hx hb hX hbl hbA hS (i := (nI ((6 * t) + 3))) (vp_in_nI (by omega) (by omega)) d_La_law_689 ?_
                refine aw_ti (y := nI k) (by rw [nI_clamp (by omega)]; exact hfr.symm) ?_
                refine lv_aload_n hx hb d_La_law_690 rfl (lv_at hl 1 rfl) ?_
                refine lv_iload hx hb d_La_law_691 (lv_at hl 5 rfl) ?_
                refine lv_iconst (v := nI 4) hx hb d_La_law_693 (by decide +kernel) ?_
                refine lv_iadd hx hb d_La_law_694 ?_
                refine aw_ti (nI_add (6 * t) 4) ?_
                refine va_sld hx hb hX hbl hbA hS (i := (nI ((6 * t) + 4))) (vp_in_nI (by omega) (by omega)) d_La_law_695 ?_
                refine aw_ti (y := nI mm) (by rw [nI_clamp (by omega)]; exact hm0.symm) ?_
                obtain ⟨_, he369⟩ := zr_M0 hSh
                refine va_calli (va_runV (As := [.int (nI j), .int x368, .int (nI k), .int (nI mm)]) (rest := []) ⟨hx, hb, hml, hown, hG⟩ (k_Mo_feedXsV l D g ad N0 zG zO zX zY zA zB zM zI zL zK zN zF zQ j x368 k mm hj (by omega) (by omega)) (aw_wV 4 hG gw_12_26 gw_12_23 gw_0_10 gw_12_24 gw_12_25 rfl rfl hd_Mo_feed ⟨Nat.le_of_ble_eq_true rfl, Nat.le_of_ble_eq_true rfl⟩) (ag_qV (va_recv hK hP rfl he369) hP hD hSh hU hS) rfl rfl hl.1 rfl (lv_room (Nat.le_of_ble_eq_true rfl)) d_La_law_696 ⟨by omega, by omega⟩) hS (fun _ _ h => h) (fun _ h => h) ?_
                clear hP hD hSh hS he369
                intro x370 u8 t8 H locs ht _ ex370 hB _ _ hS
                obtain ⟨L, hP, hD, hSh⟩ := hB
                rw [ht] at hP
                clear ht
                have ex370 := ex370.symm
                refine lv_istore hx hb d_La_law_699 hl (by decide) rfl (fun ls hl => ?_)
                have hl : lv_has ls 8 [(6, .int x370), (5, .int (nI 2)), (0, .ref b), (1, .ref (aw_r ad 0)), (2, .ref (aw_m ad 0)), (3, .ref (aw_o ad)), (4, .int (nI (6 * t)))] := hl
                refine lv_goto (tgt := 853) hx hb d_La_law_701 (by decide) ?_
                refine lv_iinc (k := 6) (v := nI (6 * t + 6)) hx hb d_La_law_853 hl rfl (aw_inc (6 * t) 6 6 (by decide +kernel)) (by decide) rfl (fun ls hl => ?_)
                have hl : lv_has ls 8 [(4, .int (nI (6 * t + 6))), (6, .int x370), (5, .int (nI 2)), (0, .ref b), (1, .ref (aw_r ad 0)), (2, .ref (aw_m ad 0)), (3, .ref (aw_o ad))] := hl
                refine lv_goto (tgt := 23) hx hb d_La_law_856 (by decide) ?_
                have hl := lv_sub hl (l' := [(0, .ref b), (1, .ref (aw_r ad 0)), (2, .ref (aw_m ad 0)), (3, .ref (aw_o ad)), (4, .int (nI (6 * t + 6)))]) [3, 4, 5, 6, 0] rfl
                refine W.widen (k := 85 + (t + 1)) (n := 1246 + 6 * (t + 1)) (by omega) (by omega) ?_
                exact ih (t + 1) zG zO zX zY zA zB zM zI zL zK zN (nI 2) zQ _ _ L ls (by omega) hP hD hSh hR hS (by first | exact hl | simpa [Nat.mul_add] using hl)
              refine lv_if_eq (tgt := 683) hx hb d_La_law_676 (by decide) (fun h9 => ?_) (fun h9 => ?_)
              · refine lv_iconst (v := nI 0) hx hb d_La_law_683 (by decide +kernel) ?_
                exact hj367 _ (if_pos h9)
              · refine lv_iconst (v := nI 1) hx hb d_La_law_679 (by decide +kernel) ?_
                refine lv_goto (tgt := 684) hx hb d_La_law_680 (by decide) ?_
                exact hj367 _ (if_neg h9)
            refine lv_if_eq (tgt := 644) hx hb d_La_law_637 (by decide) (fun h9 => ?_) (fun h9 => ?_)
            · refine lv_iconst (v := nI 0) hx hb d_La_law_644 (by decide +kernel) ?_
              exact hj364 _ (if_pos h9)
            · refine lv_iconst (v := nI 1) hx hb d_La_law_640 (by decide +kernel) ?_
              refine lv_goto (tgt := 645) hx hb d_La_law_641 (by decide) ?_
              exact hj364 _ (if_neg h9)
    · refine aw_ti (y := nI 10) (by rw [hs3]) ?_
      refine lv_tableIn (tgt := 704) (off := 664) hx hb d_La_law_40 (by decide +kernel) (by decide +kernel) (by decide +kernel) (by decide) ?_
      obtain ⟨c0, hc0⟩ : ∃ z : Int32, z = xs (6 * t + 1) := ⟨_, rfl⟩
      obtain ⟨s2, hs2⟩ : ∃ z : Int32, z = xs (6 * t + 2) := ⟨_, rfl⟩
      obtain ⟨s3, hs3⟩ : ∃ z : Int32, z = xs (6 * t + 3) := ⟨_, rfl⟩
      rcases aw_rng 4 (by decide) c0 with hc | ⟨j, hj, rfl⟩
      · refine lv_aload_n hx hb d_La_law_704 rfl (lv_at hl 1 rfl) ?_
        refine lv_aload_n hx hb d_La_law_705 rfl (lv_at hl 0 rfl) ?_
        refine lv_iload hx hb d_La_law_706 (lv_at hl 4 rfl) ?_
        refine lv_iconst (v := nI 1) hx hb d_La_law_708 (by decide +kernel) ?_
        refine lv_iadd hx hb d_La_law_709 ?_
        refine aw_ti (nI_add (6 * t) 1) ?_
        refine va_sld hx hb hX hbl hbA hS (i := (nI ((6 * t) + 1))) (vp_in_nI (by omega) (by omega)) d_La_law_710 ?_
        refine aw_ti (y := c0) (by rw [nI_clamp (by omega)]; exact hc0.symm) ?_
        refine lv_aload_n hx hb d_La_law_711 rfl (lv_at hl 0 rfl) ?_
        refine lv_iload hx hb d_La_law_712 (lv_at hl 4 rfl) ?_
        refine lv_iconst (v := nI 2) hx hb d_La_law_714 (by decide +kernel) ?_
        refine lv_iadd hx hb d_La_law_715 ?_
        refine aw_ti (nI_add (6 * t) 2) ?_
        refine va_sld hx hb hX hbl hbA hS (i := (nI ((6 * t) + 2))) (vp_in_nI (by omega) (by omega)) d_La_law_716 ?_
        refine aw_ti (y := s2) (by rw [nI_clamp (by omega)]; exact hs2.symm) ?_
        refine lv_i2l hx hb d_La_law_717 rfl ?_
        refine ag_topl (fun y371 ey371 => ?_)
        refine lv_bipush (v := nI 32) hx hb d_La_law_718 (by decide +kernel) ?_
        refine lv_lshl hx hb d_La_law_720 rfl ?_
        refine ag_topl (fun y372 ey372 => ?_)
        refine lv_aload_n hx hb d_La_law_721 rfl (lv_at hl 0 rfl) ?_
        refine lv_iload hx hb d_La_law_722 (lv_at hl 4 rfl) ?_
        refine lv_iconst (v := nI 3) hx hb d_La_law_724 (by decide +kernel) ?_
        refine lv_iadd hx hb d_La_law_725 ?_
        refine aw_ti (nI_add (6 * t) 3) ?_
        refine va_sld hx hb hX hbl hbA hS (i := (nI ((6 * t) + 3))) (vp_in_nI (by omega) (by omega)) d_La_law_726 ?_
        refine aw_ti (y := s3) (by rw [nI_clamp (by omega)]; exact hs3.symm) ?_
        refine lv_i2l hx hb d_La_law_727 rfl ?_
        refine ag_topl (fun y373 ey373 => ?_)
        refine lv_ldc2 (v := 4294967295) hx hb hown (hG _ gw_13_3) d_La_law_728 ?_
        refine lv_land hx hb d_La_law_731 ?_
        refine ag_topl (fun y374 ey374 => ?_)
        refine lv_lor hx hb d_La_law_732 ?_
        refine ag_topl (fun y375 ey375 => ?_)
        refine va_calli (vx_runSW (As := [.ref (aw_r ad 0), .int c0, .long y375]) (rest := []) ⟨hx, hb, hml, hown, hG⟩ (k_La_seekXcV l hst D g ad N0 zG zO zX zY zA zB zM zI zL zK zN zF zQ c0 y375 hc) (aw_wW 3 hG gw_8_26 gw_8_24 gw_0_0 gw_8_25 rfl rfl hd_La_seek ⟨Nat.le_of_ble_eq_true rfl, Nat.le_of_ble_eq_true rfl⟩) (ag_qS hP hD hSh hU hS) rfl rfl hl.1 rfl (lv_room (Nat.le_of_ble_eq_true rfl)) d_La_law_733 ⟨by omega, by omega⟩) hS (fun _ _ h => h) (fun _ h => h) ?_
        clear hP hD hSh hS
        intro x376 u8 t8 H locs ht _ ex376 hB _ _ hS
        obtain ⟨L, hP, hD, hSh⟩ := hB
        rw [ht] at hP
        clear ht
        subst ex376
        refine lv_istore hx hb d_La_law_736 hl (by decide) rfl (fun ls hl => ?_)
        have hl : lv_has ls 8 [(5, .int (nI 1)), (0, .ref b), (1, .ref (aw_r ad 0)), (2, .ref (aw_m ad 0)), (3, .ref (aw_o ad)), (4, .int (nI (6 * t)))] := hl
        refine lv_aload_n hx hb d_La_law_738 rfl (lv_at hl 3 rfl) ?_
        refine lv_aload_n hx hb d_La_law_739 rfl (lv_at hl 1 rfl) ?_
        refine lv_iload hx hb d_La_law_740 (lv_at hl 5 rfl) ?_
        refine lv_iconst (v := nI 1) hx hb d_La_law_742 (by decide +kernel) ?_
        refine lv_iadd hx hb d_La_law_743 ?_
        refine aw_ti (nI_add (6 * t) 1) ?_
        refine va_sld hx hb hX hbl hbA hS (i := (nI ((6 * t) + 1))) (vp_in_nI (by omega) (by omega)) d_La_law_744 ?_
        refine aw_ti (y := c0) (by rw [nI_clamp (by omega)]; exact hc0.symm) ?_
        refine lv_aload_n hx hb d_La_law_745 rfl (lv_at hl 1 rfl) ?_
        refine lv_iload hx hb d_La_law_746 (lv_at hl 5 rfl) ?_
        refine lv_iconst (v := nI 2) hx hb d_La_law_748 (by decide +kernel) ?_
        refine lv_iadd hx hb d_La_law_749 ?_
        refine aw_ti (nI_add (6 * t) 2) ?_
        refine va_sld hx hb hX hbl hbA hS (i := (nI ((6 * t) + 2))) (vp_in_nI (by omega) (by omega)) d_La_law_750 ?_
        refine aw_ti (y := s2) (by rw [nI_clamp (by omega)]; exact hs2.symm) ?_
        refine lv_i2l hx hb d_La_law_751 rfl ?_
        refine ag_topl (fun y377 ey377 => ?_)
        refine lv_bipush (v := nI 32) hx hb d_La_law_752 (by decide +kernel) ?_
        refine lv_lshl hx hb d_La_law_754 rfl ?_
        refine ag_topl (fun y378 ey378 => ?_)
        refine lv_aload_n hx hb d_La_law_755 rfl (lv_at hl 1 rfl) ?_
        refine lv_iload hx hb d_La_law_756 (lv_at hl 5 rfl) ?_
        refine lv_iconst (v := nI 3) hx hb d_La_law_758 (by decide +kernel) ?_
        refine lv_iadd hx hb d_La_law_759 ?_
        refine aw_ti (nI_add (6 * t) 3) ?_
        refine va_sld hx hb hX hbl hbA hS (i := (nI ((6 * t) + 3))) (vp_in_nI (by omega) (by omega)) d_La_law_760 ?_
        refine aw_ti (y := s3) (by rw [nI_clamp (by omega)]; exact hs3.symm) ?_
        refine lv_i2l hx hb d_La_law_761 rfl ?_
        refine ag_topl (fun y379 ey379 => ?_)
        refine lv_ldc2 (v := 4294967295) hx hb hown (hG _ gw_13_3) d_La_law_762 ?_
        refine lv_land hx hb d_La_law_765 ?_
        refine ag_topl (fun y380 ey380 => ?_)
        refine lv_lor hx hb d_La_law_766 ?_
        refine ag_topl (fun y381 ey381 => ?_)
        obtain ⟨_, he382⟩ := zr_M0 hSh
        refine va_callv (va_runV (As := [.int c0, .long y381]) (rest := []) ⟨hx, hb, hml, hown, hG⟩ (k_Mo_seekXcV l D g ad N0 zG zO zX zY zA zB zM zI zL zK zN zF zQ c0 y381 hc) (aw_wV 2 hG gw_12_45 gw_12_42 gw_0_10 gw_12_43 gw_12_44 rfl rfl hd_Mo_seek ⟨Nat.le_of_ble_eq_true rfl, Nat.le_of_ble_eq_true rfl⟩) (ag_qV (va_recv hK hP rfl he382) hP hD hSh hU hS) rfl rfl hl.1 rfl (lv_room (Nat.le_of_ble_eq_true rfl)) d_La_law_767 ⟨by omega, by omega⟩) hS (fun _ _ h => h) (fun _ h => h) ?_
        clear hP hD hSh hS he382
        intro u8 t8 H locs ht _ _ hB _ _ hS
        obtain ⟨L, hP, hD, hSh⟩ := hB
        rw [ht] at hP
        clear ht
        refine lv_goto (tgt := 853) hx hb d_La_law_770 (by decide) ?_
        refine lv_iinc (k := 5) (v := nI (6 * t + 6)) hx hb d_La_law_853 hl rfl (aw_inc (6 * t) 6 6 (by decide +kernel)) (by decide) rfl (fun ls hl => ?_)
        have hl : lv_has ls 8 [(4, .int (nI (6 * t + 6))), (5, .int (nI 1)), (0, .ref b), (1, .ref (aw_r ad 0)), (2, .ref (aw_m ad 0)), (3, .ref (aw_o ad))] := hl
        refine lv_goto (tgt := 23) hx hb d_La_law_856 (by decide) ?_
        have hl := lv_sub hl (l' := [(0, .ref b), (1, .ref (aw_r ad 0)), (2, .ref (aw_m ad 0)), (3, .ref (aw_o ad)), (4, .int (nI (6 * t + 6)))]) [2, 3, 4, 5, 0] rfl
        refine W.widen (k := 85 + (t + 1)) (n := 1246 + 6 * (t + 1)) (by omega) (by omega) ?_
        exact ih (t + 1) zG zO zX zY zA zB zM zI zL zK zN (nI 1) zQ _ _ L ls (by omega) hP hD hSh hR hS (by first | exact hl | simpa [Nat.mul_add] using hl)
      · have hgj := hSh.2.2.2.2.1 j hj
        have hq1 : (zM j).1 = (zG j).1 := by rw [hR.1 j hj]
        have hq2 : (zM j).2 = (zG j).2 := by rw [hR.1 j hj]
        by_cases hs : (zG j).1 = 3 ∧ (zG j).2 = 4
        · refine lv_aload_n hx hb d_La_law_704 rfl (lv_at hl 1 rfl) ?_
          refine lv_aload_n hx hb d_La_law_705 rfl (lv_at hl 0 rfl) ?_
          refine lv_iload hx hb d_La_law_706 (lv_at hl 4 rfl) ?_
          refine lv_iconst (v := nI 1) hx hb d_La_law_708 (by decide +kernel) ?_
          refine lv_iadd hx hb d_La_law_709 ?_
          refine aw_ti (nI_add (6 * t) 1) ?_
          refine va_sld hx hb hX hbl hbA hS (i := (nI ((6 * t) + 1))) (vp_in_nI (by omega) (by omega)) d_La_law_710 ?_
          refine aw_ti (y := nI j) (by rw [nI_clamp (by omega)]; exact hc0.symm) ?_
          refine lv_aload_n hx hb d_La_law_711 rfl (lv_at hl 0 rfl) ?_
          refine lv_iload hx hb d_La_law_712 (lv_at hl 4 rfl) ?_
          refine lv_iconst (v := nI 2) hx hb d_La_law_714 (by decide +kernel) ?_
          refine lv_iadd hx hb d_La_law_715 ?_
          refine aw_ti (nI_add (6 * t) 2) ?_
          refine va_sld hx hb hX hbl hbA hS (i := (nI ((6 * t) + 2))) (vp_in_nI (by omega) (by omega)) d_La_law_716 ?_
          refine aw_ti (y := s2) (by rw [nI_clamp (by omega)]; exact hs2.symm) ?_
          refine lv_i2l hx hb d_La_law_717 rfl ?_
          refine ag_topl (fun y383 ey383 => ?_)
          refine lv_bipush (v := nI 32) hx hb d_La_law_718 (by decide +kernel) ?_
          refine lv_lshl hx hb d_La_law_720 rfl ?_
          refine ag_topl (fun y384 ey384 => ?_)
          refine lv_aload_n hx hb d_La_law_721 rfl (lv_at hl 0 rfl) ?_
          refine lv_iload hx hb d_La_law_722 (lv_at hl 4 rfl) ?_
          refine lv_iconst (v := nI 3) hx hb d_La_law_724 (by decide +kernel) ?_
          refine lv_iadd hx hb d_La_law_725 ?_
          refine aw_ti (nI_add (6 * t) 3) ?_
          refine va_sld hx hb hX hbl hbA hS (i := (nI ((6 * t) + 3))) (vp_in_nI (by omega) (by omega)) d_La_law_726 ?_
          refine aw_ti (y := s3) (by rw [nI_clamp (by omega)]; exact hs3.symm) ?_
          refine lv_i2l hx hb d_La_law_727 rfl ?_
          refine ag_topl (fun y385 ey385 => ?_)
          refine lv_ldc2 (v := 4294967295) hx hb hown (hG _ gw_13_3) d_La_law_728 ?_
          refine lv_land hx hb d_La_law_731 ?_
          refine ag_topl (fun y386 ey386 => ?_)
          refine lv_lor hx hb d_La_law_732 ?_
          refine ag_topl (fun y387 ey387 => ?_)
          refine va_calli (vx_runSW (As := [.ref (aw_r ad 0), .int (nI j), .long y387]) (rest := []) ⟨hx, hb, hml, hown, hG⟩ (k_La_seek1V l hst D g ad N0 zG zO zX zY zA zB zM zI zL zK zN zF zQ j y387 hj (by omega)) (aw_wW 3 hG gw_8_26 gw_8_24 gw_0_0 gw_8_25 rfl rfl hd_La_seek ⟨Nat.le_of_ble_eq_true rfl, Nat.le_of_ble_eq_true rfl⟩) (ag_qS hP hD hSh hU hS) rfl rfl hl.1 rfl (lv_room (Nat.le_of_ble_eq_true rfl)) d_La_law_733 ⟨by omega, by omega⟩) hS (fun _ _ h => h) (fun _ h => h) ?_
          clear hP hD hSh hS
          intro x388 u8 t8 H locs ht _ ex388 hB _ _ hS
          obtain ⟨L, hP, hD, hSh⟩ := hB
          rw [ht] at hP
          clear ht
          subst ex388
          obtain ⟨zX389, ezX389⟩ : ∃ z : Nat → Nat → Int64, v_La_seek1V_zX zX zY j y387 = z := ⟨_, rfl⟩
          rw [ezX389] at hSh
          obtain ⟨zY390, ezY390⟩ : ∃ z : Nat → Nat → Int32, v_La_seek1V_zY zX zY j y387 = z := ⟨_, rfl⟩
          rw [ezY390] at hSh
          refine lv_istore hx hb d_La_law_736 hl (by decide) rfl (fun ls hl => ?_)
          have hl : lv_has ls 8 [(5, .int (nI 0)), (0, .ref b), (1, .ref (aw_r ad 0)), (2, .ref (aw_m ad 0)), (3, .ref (aw_o ad)), (4, .int (nI (6 * t)))] := hl
          refine lv_aload_n hx hb d_La_law_738 rfl (lv_at hl 3 rfl) ?_
          refine lv_aload_n hx hb d_La_law_739 rfl (lv_at hl 1 rfl) ?_
          refine lv_iload hx hb d_La_law_740 (lv_at hl 5 rfl) ?_
          refine lv_iconst (v := nI 1) hx hb d_La_law_742 (by decide +kernel) ?_
          refine lv_iadd hx hb d_La_law_743 ?_
          refine aw_ti (nI_add (6 * t) 1) ?_
          refine va_sld hx hb hX hbl hbA hS (i := (nI ((6 * t) + 1))) (vp_in_nI (by omega) (by omega)) d_La_law_744 ?_
          refine aw_ti (y := nI j) (by rw [nI_clamp (by omega)]; exact hc0.symm) ?_
          refine lv_aload_n hx hb d_La_law_745 rfl (lv_at hl 1 rfl) ?_
          refine lv_iload hx hb d_La_law_746 (lv_at hl 5 rfl) ?_
          refine lv_iconst (v := nI 2) hx hb d_La_law_748 (by decide +kernel) ?_
          refine lv_iadd hx hb d_La_law_749 ?_
          refine aw_ti (nI_add (6 * t) 2) ?_
          refine va_sld hx hb hX hbl hbA hS (i := (nI ((6 * t) + 2))) (vp_in_nI (by omega) (by omega)) d_La_law_750 ?_
          refine aw_ti (y := s2) (by rw [nI_clamp (by omega)]; exact hs2.symm) ?_
          refine lv_i2l hx hb d_La_law_751 rfl ?_
          refine ag_topl (fun y391 ey391 => ?_)
          refine lv_bipush (v := nI 32) hx hb d_La_law_752 (by decide +kernel) ?_
          refine lv_lshl hx hb d_La_law_754 rfl ?_
          refine ag_topl (fun y392 ey392 => ?_)
          refine lv_aload_n hx hb d_La_law_755 rfl (lv_at hl 1 rfl) ?_
          refine lv_iload hx hb d_La_law_756 (lv_at hl 5 rfl) ?_
          refine lv_iconst (v := nI 3) hx hb d_La_law_758 (by decide +kernel) ?_
          refine lv_iadd hx hb d_La_law_759 ?_
          refine aw_ti (nI_add (6 * t) 3) ?_
          refine va_sld hx hb hX hbl hbA hS (i := (nI ((6 * t) + 3))) (vp_in_nI (by omega) (by omega)) d_La_law_760 ?_
          refine aw_ti (y := s3) (by rw [nI_clamp (by omega)]; exact hs3.symm) ?_
          refine lv_i2l hx hb d_La_law_761 rfl ?_
          refine ag_topl (fun y393 ey393 => ?_)
          refine lv_ldc2 (v := 4294967295) hx hb hown (hG _ gw_13_3) d_La_law_762 ?_
          refine lv_land hx hb d_La_law_765 ?_
          refine ag_topl (fun y394 ey394 => ?_)
          refine lv_lor hx hb d_La_law_766 ?_
          refine ag_topl (fun y395 ey395 => ?_)
          obtain ⟨_, he396⟩ := zr_M0 hSh
          refine va_callv (va_runV (As := [.int (nI j), .long y395]) (rest := []) ⟨hx, hb, hml, hown, hG⟩ (k_Mo_seek1V l D g ad N0 zG zO zX389 zY390 zA zB zM zI zL zK zN zF zQ j y395 hj (by omega)) (aw_wV 2 hG gw_12_45 gw_12_42 gw_0_10 gw_12_43 gw_12_44 rfl rfl hd_Mo_seek ⟨Nat.le_of_ble_eq_true rfl, Nat.le_of_ble_eq_true rfl⟩) (ag_qV (va_recv hK hP rfl he396) hP hD hSh hU hS) rfl rfl hl.1 rfl (lv_room (Nat.le_of_ble_eq_true rfl)) d_La_law_767 ⟨by omega, by omega⟩) hS (fun _ _ h => h) (fun _ h => h) ?_
          clear hP hD hSh hS he396
          intro u8 t8 H locs ht _ _ hB _ _ hS
          obtain ⟨L, hP, hD, hSh⟩ := hB
          rw [ht] at hP
          clear ht
          obtain ⟨zI397, ezI397⟩ : ∃ z : Nat → Nat → Int32, v_Mo_seek1V_zI zI zL j y395 = z := ⟨_, rfl⟩
          rw [ezI397] at hSh
          obtain ⟨zL398, ezL398⟩ : ∃ z : Nat → Nat → Int64, v_Mo_seek1V_zL zI zL j y395 = z := ⟨_, rfl⟩
          rw [ezL398] at hSh
          refine lv_goto (tgt := 853) hx hb d_La_law_770 (by decide) ?_
          refine lv_iinc (k := 5) (v := nI (6 * t + 6)) hx hb d_La_law_853 hl rfl (aw_inc (6 * t) 6 6 (by decide +kernel)) (by decide) rfl (fun ls hl => ?_)
          have hl : lv_has ls 8 [(4, .int (nI (6 * t + 6))), (5, .int (nI 0)), (0, .ref b), (1, .ref (aw_r ad 0)), (2, .ref (aw_m ad 0)), (3, .ref (aw_o ad))] := hl
          refine lv_goto (tgt := 23) hx hb d_La_law_856 (by decide) ?_
          have hl := lv_sub hl (l' := [(0, .ref b), (1, .ref (aw_r ad 0)), (2, .ref (aw_m ad 0)), (3, .ref (aw_o ad)), (4, .int (nI (6 * t + 6)))]) [2, 3, 4, 5, 0] rfl
          refine W.widen (k := 85 + (t + 1)) (n := 1246 + 6 * (t + 1)) (by omega) (by omega) ?_
          have hR : az_R zG zO zX389 zY390 zA zB zM zI397 zL398 := by
            subst ezL398 ezI397 ey395 ey394 ey393 ey392 ey391 ezY390 ezX389 ey387 ey386 ey385 ey384 ey383
            exact r_seek1 hR hj hs
          exact ih (t + 1) zG zO zX389 zY390 zA zB zM zI397 zL398 zK zN (nI 0) zQ _ _ L ls (by omega) hP hD hSh hR hS (by first | exact hl | simpa [Nat.mul_add] using hl)
        · refine lv_aload_n hx hb d_La_law_704 rfl (lv_at hl 1 rfl) ?_
          refine lv_aload_n hx hb d_La_law_705 rfl (lv_at hl 0 rfl) ?_
          refine lv_iload hx hb d_La_law_706 (lv_at hl 4 rfl) ?_
          refine lv_iconst (v := nI 1) hx hb d_La_law_708 (by decide +kernel) ?_
          refine lv_iadd hx hb d_La_law_709 ?_
          refine aw_ti (nI_add (6 * t) 1) ?_
          refine va_sld hx hb hX hbl hbA hS (i := (nI ((6 * t) + 1))) (vp_in_nI (by omega) (by omega)) d_La_law_710 ?_
          refine aw_ti (y := nI j) (by rw [nI_clamp (by omega)]; exact hc0.symm) ?_
          refine lv_aload_n hx hb d_La_law_711 rfl (lv_at hl 0 rfl) ?_
          refine lv_iload hx hb d_La_law_712 (lv_at hl 4 rfl) ?_
          refine lv_iconst (v := nI 2) hx hb d_La_law_714 (by decide +kernel) ?_
          refine lv_iadd hx hb d_La_law_715 ?_
          refine aw_ti (nI_add (6 * t) 2) ?_
          refine va_sld hx hb hX hbl hbA hS (i := (nI ((6 * t) + 2))) (vp_in_nI (by omega) (by omega)) d_La_law_716 ?_
          refine aw_ti (y := s2) (by rw [nI_clamp (by omega)]; exact hs2.symm) ?_
          refine lv_i2l hx hb d_La_law_717 rfl ?_
          refine ag_topl (fun y399 ey399 => ?_)
          refine lv_bipush (v := nI 32) hx hb d_La_law_718 (by decide +kernel) ?_
          refine lv_lshl hx hb d_La_law_720 rfl ?_
          refine ag_topl (fun y400 ey400 => ?_)
          refine lv_aload_n hx hb d_La_law_721 rfl (lv_at hl 0 rfl) ?_
          refine lv_iload hx hb d_La_law_722 (lv_at hl 4 rfl) ?_
          refine lv_iconst (v := nI 3) hx hb d_La_law_724 (by decide +kernel) ?_
          refine lv_iadd hx hb d_La_law_725 ?_
          refine aw_ti (nI_add (6 * t) 3) ?_
          refine va_sld hx hb hX hbl hbA hS (i := (nI ((6 * t) + 3))) (vp_in_nI (by omega) (by omega)) d_La_law_726 ?_
          refine aw_ti (y := s3) (by rw [nI_clamp (by omega)]; exact hs3.symm) ?_
          refine lv_i2l hx hb d_La_law_727 rfl ?_
          refine ag_topl (fun y401 ey401 => ?_)
          refine lv_ldc2 (v := 4294967295) hx hb hown (hG _ gw_13_3) d_La_law_728 ?_
          refine lv_land hx hb d_La_law_731 ?_
          refine ag_topl (fun y402 ey402 => ?_)
          refine lv_lor hx hb d_La_law_732 ?_
          refine ag_topl (fun y403 ey403 => ?_)
          refine va_calli (vx_runSW (As := [.ref (aw_r ad 0), .int (nI j), .long y403]) (rest := []) ⟨hx, hb, hml, hown, hG⟩ (k_La_seekXsV l hst D g ad N0 zG zO zX zY zA zB zM zI zL zK zN zF zQ j y403 hj (by omega)) (aw_wW 3 hG gw_8_26 gw_8_24 gw_0_0 gw_8_25 rfl rfl hd_La_seek ⟨Nat.le_of_ble_eq_true rfl, Nat.le_of_ble_eq_true rfl⟩) (ag_qS hP hD hSh hU hS) rfl rfl hl.1 rfl (lv_room (Nat.le_of_ble_eq_true rfl)) d_La_law_733 ⟨by omega, by omega⟩) hS (fun _ _ h => h) (fun _ h => h) ?_
          clear hP hD hSh hS
          intro x404 u8 t8 H locs ht _ ex404 hB _ _ hS
          obtain ⟨L, hP, hD, hSh⟩ := hB
          rw [ht] at hP
          clear ht
          subst ex404
          refine lv_istore hx hb d_La_law_736 hl (by decide) rfl (fun ls hl => ?_)
          have hl : lv_has ls 8 [(5, .int (nI 2)), (0, .ref b), (1, .ref (aw_r ad 0)), (2, .ref (aw_m ad 0)), (3, .ref (aw_o ad)), (4, .int (nI (6 * t)))] := hl
          refine lv_aload_n hx hb d_La_law_738 rfl (lv_at hl 3 rfl) ?_
          refine lv_aload_n hx hb d_La_law_739 rfl (lv_at hl 1 rfl) ?_
          refine lv_iload hx hb d_La_law_740 (lv_at hl 5 rfl) ?_
          refine lv_iconst (v := nI 1) hx hb d_La_law_742 (by decide +kernel) ?_
          refine lv_iadd hx hb d_La_law_743 ?_
          refine aw_ti (nI_add (6 * t) 1) ?_
          refine va_sld hx hb hX hbl hbA hS (i := (nI ((6 * t) + 1))) (vp_in_nI (by omega) (by omega)) d_La_law_744 ?_
          refine aw_ti (y := nI j) (by rw [nI_clamp (by omega)]; exact hc0.symm) ?_
          refine lv_aload_n hx hb d_La_law_745 rfl (lv_at hl 1 rfl) ?_
          refine lv_iload hx hb d_La_law_746 (lv_at hl 5 rfl) ?_
          refine lv_iconst (v := nI 2) hx hb d_La_law_748 (by decide +kernel) ?_
          refine lv_iadd hx hb d_La_law_749 ?_
          refine aw_ti (nI_add (6 * t) 2) ?_
          refine va_sld hx hb hX hbl hbA hS (i := (nI ((6 * t) + 2))) (vp_in_nI (by omega) (by omega)) d_La_law_750 ?_
          refine aw_ti (y := s2) (by rw [nI_clamp (by omega)]; exact hs2.symm) ?_
          refine lv_i2l hx hb d_La_law_751 rfl ?_
          refine ag_topl (fun y405 ey405 => ?_)
          refine lv_bipush (v := nI 32) hx hb d_La_law_752 (by decide +kernel) ?_
          refine lv_lshl hx hb d_La_law_754 rfl ?_
          refine ag_topl (fun y406 ey406 => ?_)
          refine lv_aload_n hx hb d_La_law_755 rfl (lv_at hl 1 rfl) ?_
          refine lv_iload hx hb d_La_law_756 (lv_at hl 5 rfl) ?_
          refine lv_iconst (v := nI 3) hx hb d_La_law_758 (by decide +kernel) ?_
          refine lv_iadd hx hb d_La_law_759 ?_
          refine aw_ti (nI_add (6 * t) 3) ?_
          refine va_sld hx hb hX hbl hbA hS (i := (nI ((6 * t) + 3))) (vp_in_nI (by omega) (by omega)) d_La_law_760 ?_
          refine aw_ti (y := s3) (by rw [nI_clamp (by omega)]; exact hs3.symm) ?_
          refine lv_i2l hx hb d_La_law_761 rfl ?_
          refine ag_topl (fun y407 ey407 => ?_)
          refine lv_ldc2 (v := 4294967295) hx hb hown (hG _ gw_13_3) d_La_law_762 ?_
          refine lv_land hx hb d_La_law_765 ?_
          refine ag_topl (fun y408 ey408 => ?_)
          refine lv_lor hx hb d_La_law_766 ?_
          refine ag_topl (fun y409 ey409 => ?_)
          obtain ⟨_, he410⟩ := zr_M0 hSh
          refine va_callv (va_runV (As := [.int (nI j), .long y409]) (rest := []) ⟨hx, hb, hml, hown, hG⟩ (k_Mo_seekXsV l D g ad N0 zG zO zX zY zA zB zM zI zL zK zN zF zQ j y409 hj (by omega)) (aw_wV 2 hG gw_12_45 gw_12_42 gw_0_10 gw_12_43 gw_12_44 rfl rfl hd_Mo_seek ⟨Nat.le_of_ble_eq_true rfl, Nat.le_of_ble_eq_true rfl⟩) (ag_qV (va_recv hK hP rfl he410) hP hD hSh hU hS) rfl rfl hl.1 rfl (lv_room (Nat.le_of_ble_eq_true rfl)) d_La_law_767 ⟨by omega, by omega⟩) hS (fun _ _ h => h) (fun _ h => h) ?_
          clear hP hD hSh hS he410
          intro u8 t8 H locs ht _ _ hB _ _ hS
          obtain ⟨L, hP, hD, hSh⟩ := hB
          rw [ht] at hP
          clear ht
          refine lv_goto (tgt := 853) hx hb d_La_law_770 (by decide) ?_
          refine lv_iinc (k := 5) (v := nI (6 * t + 6)) hx hb d_La_law_853 hl rfl (aw_inc (6 * t) 6 6 (by decide +kernel)) (by decide) rfl (fun ls hl => ?_)
          have hl : lv_has ls 8 [(4, .int (nI (6 * t + 6))), (5, .int (nI 2)), (0, .ref b), (1, .ref (aw_r ad 0)), (2, .ref (aw_m ad 0)), (3, .ref (aw_o ad))] := hl
          refine lv_goto (tgt := 23) hx hb d_La_law_856 (by decide) ?_
          have hl := lv_sub hl (l' := [(0, .ref b), (1, .ref (aw_r ad 0)), (2, .ref (aw_m ad 0)), (3, .ref (aw_o ad)), (4, .int (nI (6 * t + 6)))]) [2, 3, 4, 5, 0] rfl
          refine W.widen (k := 85 + (t + 1)) (n := 1246 + 6 * (t + 1)) (by omega) (by omega) ?_
          exact ih (t + 1) zG zO zX zY zA zB zM zI zL zK zN (nI 2) zQ _ _ L ls (by omega) hP hD hSh hR hS (by first | exact hl | simpa [Nat.mul_add] using hl)
    · refine aw_ti (y := nI 11) (by rw [hs3]) ?_
      refine lv_tableIn (tgt := 773) (off := 733) hx hb d_La_law_40 (by decide +kernel) (by decide +kernel) (by decide +kernel) (by decide) ?_
      obtain ⟨c0, hc0⟩ : ∃ z : Int32, z = xs (6 * t + 1) := ⟨_, rfl⟩
      obtain ⟨fr, hfr⟩ : ∃ z : Int32, z = xs (6 * t + 2) := ⟨_, rfl⟩
      obtain ⟨m0, hm0⟩ : ∃ z : Int32, z = xs (6 * t + 3) := ⟨_, rfl⟩
      rcases aw_rng 4 (by decide) c0 with hc | ⟨j, hj, rfl⟩
      · refine lv_aload_n hx hb d_La_law_773 rfl (lv_at hl 1 rfl) ?_
        refine lv_aload_n hx hb d_La_law_774 rfl (lv_at hl 0 rfl) ?_
        refine lv_iload hx hb d_La_law_775 (lv_at hl 4 rfl) ?_
        refine lv_iconst (v := nI 1) hx hb d_La_law_777 (by decide +kernel) ?_
        refine lv_iadd hx hb d_La_law_778 ?_
        refine aw_ti (nI_add (6 * t) 1) ?_
        refine va_sld hx hb hX hbl hbA hS (i := (nI ((6 * t) + 1))) (vp_in_nI (by omega) (by omega)) d_La_law_779 ?_
        refine aw_ti (y := c0) (by rw [nI_clamp (by omega)]; exact hc0.symm) ?_
        refine lv_aload_n hx hb d_La_law_780 rfl (lv_at hl 0 rfl) ?_
        refine lv_iload hx hb d_La_law_781 (lv_at hl 4 rfl) ?_
        refine lv_iconst (v := nI 2) hx hb d_La_law_783 (by decide +kernel) ?_
        refine lv_iadd hx hb d_La_law_784 ?_
        refine aw_ti (nI_add (6 * t) 2) ?_
        refine va_sld hx hb hX hbl hbA hS (i := (nI ((6 * t) + 2))) (vp_in_nI (by omega) (by omega)) d_La_law_785 ?_
        refine aw_ti (y := fr) (by rw [nI_clamp (by omega)]; exact hfr.symm) ?_
        refine lv_aload_n hx hb d_La_law_786 rfl (lv_at hl 0 rfl) ?_
        refine lv_iload hx hb d_La_law_787 (lv_at hl 4 rfl) ?_
        refine lv_iconst (v := nI 3) hx hb d_La_law_789 (by decide +kernel) ?_
        refine lv_iadd hx hb d_La_law_790 ?_
        refine aw_ti (nI_add (6 * t) 3) ?_
        refine va_sld hx hb hX hbl hbA hS (i := (nI ((6 * t) + 3))) (vp_in_nI (by omega) (by omega)) d_La_law_791 ?_
        refine aw_ti (y := m0) (by rw [nI_clamp (by omega)]; exact hm0.symm) ?_
        refine lv_aload_n hx hb d_La_law_792 rfl (lv_at hl 3 rfl) ?_
        refine va_calli (vx_runSW (As := [.ref (aw_r ad 0), .int c0, .int fr, .int m0, .ref (aw_o ad)]) (rest := []) ⟨hx, hb, hml, hown, hG⟩ (k_La_takeXcV l hst D g ad N0 zG zO zX zY zA zB zM zI zL zK zN zF zQ c0 fr m0 hc) (aw_wW 5 hG gw_8_40 gw_8_38 gw_0_0 gw_8_39 rfl rfl hd_La_take ⟨Nat.le_of_ble_eq_true rfl, Nat.le_of_ble_eq_true rfl⟩) (ag_qS hP hD hSh hU hS) rfl rfl hl.1 rfl (lv_room (Nat.le_of_ble_eq_true rfl)) d_La_law_793 ⟨by omega, by omega⟩) hS (fun _ _ h => h) (fun _ h => h) ?_
        clear hP hD hSh hS
        intro x411 u8 t8 H locs ht _ ex411 hB _ _ hS
        obtain ⟨L, hP, hD, hSh⟩ := hB
        rw [ht] at hP
        clear ht
        subst ex411
        refine lv_istore hx hb d_La_law_796 hl (by decide) rfl (fun ls hl => ?_)
        have hl : lv_has ls 8 [(5, .int (nI 1)), (0, .ref b), (1, .ref (aw_r ad 0)), (2, .ref (aw_m ad 0)), (3, .ref (aw_o ad)), (4, .int (nI (6 * t)))] := hl
        refine lv_aload_n hx hb d_La_law_798 rfl (lv_at hl 3 rfl) ?_
        refine lv_aload_n hx hb d_La_law_799 rfl (lv_at hl 1 rfl) ?_
        refine lv_iload hx hb d_La_law_800 (lv_at hl 5 rfl) ?_
        refine lv_iconst (v := nI 1) hx hb d_La_law_802 (by decide +kernel) ?_
        refine lv_iadd hx hb d_La_law_803 ?_
        refine aw_ti (nI_add (6 * t) 1) ?_
        refine va_sld hx hb hX hbl hbA hS (i := (nI ((6 * t) + 1))) (vp_in_nI (by omega) (by omega)) d_La_law_804 ?_
        refine aw_ti (y := c0) (by rw [nI_clamp (by omega)]; exact hc0.symm) ?_
        refine lv_aload_n hx hb d_La_law_805 rfl (lv_at hl 1 rfl) ?_
        refine lv_iload hx hb d_La_law_806 (lv_at hl 5 rfl) ?_
        refine lv_iconst (v := nI 2) hx hb d_La_law_808 (by decide +kernel) ?_
        refine lv_iadd hx hb d_La_law_809 ?_
        refine aw_ti (nI_add (6 * t) 2) ?_
        refine va_sld hx hb hX hbl hbA hS (i := (nI ((6 * t) + 2))) (vp_in_nI (by omega) (by omega)) d_La_law_810 ?_
        refine aw_ti (y := fr) (by rw [nI_clamp (by omega)]; exact hfr.symm) ?_
        refine lv_aload_n hx hb d_La_law_811 rfl (lv_at hl 1 rfl) ?_
        refine lv_iload hx hb d_La_law_812 (lv_at hl 5 rfl) ?_
        refine lv_iconst (v := nI 3) hx hb d_La_law_814 (by decide +kernel) ?_
        refine lv_iadd hx hb d_La_law_815 ?_
        refine aw_ti (nI_add (6 * t) 3) ?_
        refine va_sld hx hb hX hbl hbA hS (i := (nI ((6 * t) + 3))) (vp_in_nI (by omega) (by omega)) d_La_law_816 ?_
        refine aw_ti (y := m0) (by rw [nI_clamp (by omega)]; exact hm0.symm) ?_
        obtain ⟨_, he412⟩ := zr_M0 hSh
        refine va_calli (va_runV (As := [.int c0, .int fr, .int m0]) (rest := []) ⟨hx, hb, hml, hown, hG⟩ (k_Mo_takeXcV l D g ad N0 zG zO zX zY zA zB zM zI zL zK zN zF zQ c0 fr m0 hc) (aw_wV 3 hG gw_12_49 gw_12_46 gw_0_10 gw_12_47 gw_12_48 rfl rfl hd_Mo_take ⟨Nat.le_of_ble_eq_true rfl, Nat.le_of_ble_eq_true rfl⟩) (ag_qV (va_recv hK hP rfl he412) hP hD hSh hU hS) rfl rfl hl.1 rfl (lv_room (Nat.le_of_ble_eq_true rfl)) d_La_law_817 ⟨by omega, by omega⟩) hS (fun _ _ h => h) (fun _ h => h) ?_
        clear hP hD hSh hS he412
        intro x413 u8 t8 H locs ht _ ex413 hB _ _ hS
        obtain ⟨L, hP, hD, hSh⟩ := hB
        rw [ht] at hP
        clear ht
        have ex413 := ex413.symm
        refine lv_istore hx hb d_La_law_820 hl (by decide) rfl (fun ls hl => ?_)
        have hl : lv_has ls 8 [(6, .int x413), (5, .int (nI 1)), (0, .ref b), (1, .ref (aw_r ad 0)), (2, .ref (aw_m ad 0)), (3, .ref (aw_o ad)), (4, .int (nI (6 * t)))] := hl
        refine lv_goto (tgt := 853) hx hb d_La_law_822 (by decide) ?_
        refine lv_iinc (k := 6) (v := nI (6 * t + 6)) hx hb d_La_law_853 hl rfl (aw_inc (6 * t) 6 6 (by decide +kernel)) (by decide) rfl (fun ls hl => ?_)
        have hl : lv_has ls 8 [(4, .int (nI (6 * t + 6))), (6, .int x413), (5, .int (nI 1)), (0, .ref b), (1, .ref (aw_r ad 0)), (2, .ref (aw_m ad 0)), (3, .ref (aw_o ad))] := hl
        refine lv_goto (tgt := 23) hx hb d_La_law_856 (by decide) ?_
        have hl := lv_sub hl (l' := [(0, .ref b), (1, .ref (aw_r ad 0)), (2, .ref (aw_m ad 0)), (3, .ref (aw_o ad)), (4, .int (nI (6 * t + 6)))]) [3, 4, 5, 6, 0] rfl
        refine W.widen (k := 85 + (t + 1)) (n := 1246 + 6 * (t + 1)) (by omega) (by omega) ?_
        exact ih (t + 1) zG zO zX zY zA zB zM zI zL zK zN (nI 1) zQ _ _ L ls (by omega) hP hD hSh hR hS (by first | exact hl | simpa [Nat.mul_add] using hl)
      · have hgj := hSh.2.2.2.2.1 j hj
        have hq1 : (zM j).1 = (zG j).1 := by rw [hR.1 j hj]
        have hq2 : (zM j).2 = (zG j).2 := by rw [hR.1 j hj]
        rcases aw_buf fr m0 with hi | rfl | ⟨k, mm, rfl, rfl, h0, hk⟩
        · have hi2 := aw_bp hi
          refine lv_aload_n hx hb d_La_law_773 rfl (lv_at hl 1 rfl) ?_
          refine lv_aload_n hx hb d_La_law_774 rfl (lv_at hl 0 rfl) ?_
          refine lv_iload hx hb d_La_law_775 (lv_at hl 4 rfl) ?_
          refine lv_iconst (v := nI 1) hx hb d_La_law_777 (by decide +kernel) ?_
          refine lv_iadd hx hb d_La_law_778 ?_
          refine aw_ti (nI_add (6 * t) 1) ?_
          refine va_sld hx hb hX hbl hbA hS (i := (nI ((6 * t) + 1))) (vp_in_nI (by omega) (by omega)) d_La_law_779 ?_
          refine aw_ti (y := nI j) (by rw [nI_clamp (by omega)]; exact hc0.symm) ?_
          refine lv_aload_n hx hb d_La_law_780 rfl (lv_at hl 0 rfl) ?_
          refine lv_iload hx hb d_La_law_781 (lv_at hl 4 rfl) ?_
          refine lv_iconst (v := nI 2) hx hb d_La_law_783 (by decide +kernel) ?_
          refine lv_iadd hx hb d_La_law_784 ?_
          refine aw_ti (nI_add (6 * t) 2) ?_
          refine va_sld hx hb hX hbl hbA hS (i := (nI ((6 * t) + 2))) (vp_in_nI (by omega) (by omega)) d_La_law_785 ?_
          refine aw_ti (y := fr) (by rw [nI_clamp (by omega)]; exact hfr.symm) ?_
          refine lv_aload_n hx hb d_La_law_786 rfl (lv_at hl 0 rfl) ?_
          refine lv_iload hx hb d_La_law_787 (lv_at hl 4 rfl) ?_
          refine lv_iconst (v := nI 3) hx hb d_La_law_789 (by decide +kernel) ?_
          refine lv_iadd hx hb d_La_law_790 ?_
          refine aw_ti (nI_add (6 * t) 3) ?_
          refine va_sld hx hb hX hbl hbA hS (i := (nI ((6 * t) + 3))) (vp_in_nI (by omega) (by omega)) d_La_law_791 ?_
          refine aw_ti (y := m0) (by rw [nI_clamp (by omega)]; exact hm0.symm) ?_
          refine lv_aload_n hx hb d_La_law_792 rfl (lv_at hl 3 rfl) ?_
          refine va_calli (vx_runSW (As := [.ref (aw_r ad 0), .int (nI j), .int fr, .int m0, .ref (aw_o ad)]) (rest := []) ⟨hx, hb, hml, hown, hG⟩ (k_La_takeXbV l hst D g ad N0 zG zO zX zY zA zB zM zI zL zK zN zF zQ j fr m0 hj hi) (aw_wW 5 hG gw_8_40 gw_8_38 gw_0_0 gw_8_39 rfl rfl hd_La_take ⟨Nat.le_of_ble_eq_true rfl, Nat.le_of_ble_eq_true rfl⟩) (ag_qS hP hD hSh hU hS) rfl rfl hl.1 rfl (lv_room (Nat.le_of_ble_eq_true rfl)) d_La_law_793 ⟨by omega, by omega⟩) hS (fun _ _ h => h) (fun _ h => h) ?_
          clear hP hD hSh hS
          intro x414 u8 t8 H locs ht _ ex414 hB _ _ hS
          obtain ⟨L, hP, hD, hSh⟩ := hB
          rw [ht] at hP
          clear ht
          subst ex414
          refine lv_istore hx hb d_La_law_796 hl (by decide) rfl (fun ls hl => ?_)
          have hl : lv_has ls 8 [(5, .int (nI 1)), (0, .ref b), (1, .ref (aw_r ad 0)), (2, .ref (aw_m ad 0)), (3, .ref (aw_o ad)), (4, .int (nI (6 * t)))] := hl
          refine lv_aload_n hx hb d_La_law_798 rfl (lv_at hl 3 rfl) ?_
          refine lv_aload_n hx hb d_La_law_799 rfl (lv_at hl 1 rfl) ?_
          refine lv_iload hx hb d_La_law_800 (lv_at hl 5 rfl) ?_
          refine lv_iconst (v := nI 1) hx hb d_La_law_802 (by decide +kernel) ?_
          refine lv_iadd hx hb d_La_law_803 ?_
          refine aw_ti (nI_add (6 * t) 1) ?_
          refine va_sld hx hb hX hbl hbA hS (i := (nI ((6 * t) + 1))) (vp_in_nI (by omega) (by omega)) d_La_law_804 ?_
          refine aw_ti (y := nI j) (by rw [nI_clamp (by omega)]; exact hc0.symm) ?_
          refine lv_aload_n hx hb d_La_law_805 rfl (lv_at hl 1 rfl) ?_
          refine lv_iload hx hb d_La_law_806 (lv_at hl 5 rfl) ?_
          refine lv_iconst (v := nI 2) hx hb d_La_law_808 (by decide +kernel) ?_
          refine lv_iadd hx hb d_La_law_809 ?_
          refine aw_ti (nI_add (6 * t) 2) ?_
          refine va_sld hx hb hX hbl hbA hS (i := (nI ((6 * t) + 2))) (vp_in_nI (by omega) (by omega)) d_La_law_810 ?_
          refine aw_ti (y := fr) (by rw [nI_clamp (by omega)]; exact hfr.symm) ?_
          refine lv_aload_n hx hb d_La_law_811 rfl (lv_at hl 1 rfl) ?_
          refine lv_iload hx hb d_La_law_812 (lv_at hl 5 rfl) ?_
          refine lv_iconst (v := nI 3) hx hb d_La_law_814 (by decide +kernel) ?_
          refine lv_iadd hx hb d_La_law_815 ?_
          refine aw_ti (nI_add (6 * t) 3) ?_
          refine va_sld hx hb hX hbl hbA hS (i := (nI ((6 * t) + 3))) (vp_in_nI (by omega) (by omega)) d_La_law_816 ?_
          refine aw_ti (y := m0) (by rw [nI_clamp (by omega)]; exact hm0.symm) ?_
          obtain ⟨_, he415⟩ := zr_M0 hSh
          refine va_calli (va_runV (As := [.int (nI j), .int fr, .int m0]) (rest := []) ⟨hx, hb, hml, hown, hG⟩ (k_Mo_takeXbV l D g ad N0 zG zO zX zY zA zB zM zI zL zK zN zF zQ j fr m0 hj hi2) (aw_wV 3 hG gw_12_49 gw_12_46 gw_0_10 gw_12_47 gw_12_48 rfl rfl hd_Mo_take ⟨Nat.le_of_ble_eq_true rfl, Nat.le_of_ble_eq_true rfl⟩) (ag_qV (va_recv hK hP rfl he415) hP hD hSh hU hS) rfl rfl hl.1 rfl (lv_room (Nat.le_of_ble_eq_true rfl)) d_La_law_817 ⟨by omega, by omega⟩) hS (fun _ _ h => h) (fun _ h => h) ?_
          clear hP hD hSh hS he415
          intro x416 u8 t8 H locs ht _ ex416 hB _ _ hS
          obtain ⟨L, hP, hD, hSh⟩ := hB
          rw [ht] at hP
          clear ht
          have ex416 := ex416.symm
          refine lv_istore hx hb d_La_law_820 hl (by decide) rfl (fun ls hl => ?_)
          have hl : lv_has ls 8 [(6, .int x416), (5, .int (nI 1)), (0, .ref b), (1, .ref (aw_r ad 0)), (2, .ref (aw_m ad 0)), (3, .ref (aw_o ad)), (4, .int (nI (6 * t)))] := hl
          refine lv_goto (tgt := 853) hx hb d_La_law_822 (by decide) ?_
          refine lv_iinc (k := 6) (v := nI (6 * t + 6)) hx hb d_La_law_853 hl rfl (aw_inc (6 * t) 6 6 (by decide +kernel)) (by decide) rfl (fun ls hl => ?_)
          have hl : lv_has ls 8 [(4, .int (nI (6 * t + 6))), (6, .int x416), (5, .int (nI 1)), (0, .ref b), (1, .ref (aw_r ad 0)), (2, .ref (aw_m ad 0)), (3, .ref (aw_o ad))] := hl
          refine lv_goto (tgt := 23) hx hb d_La_law_856 (by decide) ?_
          have hl := lv_sub hl (l' := [(0, .ref b), (1, .ref (aw_r ad 0)), (2, .ref (aw_m ad 0)), (3, .ref (aw_o ad)), (4, .int (nI (6 * t + 6)))]) [3, 4, 5, 6, 0] rfl
          refine W.widen (k := 85 + (t + 1)) (n := 1246 + 6 * (t + 1)) (by omega) (by omega) ?_
          exact ih (t + 1) zG zO zX zY zA zB zM zI zL zK zN (nI 1) zQ _ _ L ls (by omega) hP hD hSh hR hS (by first | exact hl | simpa [Nat.mul_add] using hl)
        · rcases aw_p0f fr with hi | ⟨k, rfl, hk⟩
          · by_cases hs : (zG j).1 = 3 ∧ (zG j).2 = 5
            · refine lv_aload_n hx hb d_La_law_773 rfl (lv_at hl 1 rfl) ?_
              refine lv_aload_n hx hb d_La_law_774 rfl (lv_at hl 0 rfl) ?_
              refine lv_iload hx hb d_La_law_775 (lv_at hl 4 rfl) ?_
              refine lv_iconst (v := nI 1) hx hb d_La_law_777 (by decide +kernel) ?_
              refine lv_iadd hx hb d_La_law_778 ?_
              refine aw_ti (nI_add (6 * t) 1) ?_
              refine va_sld hx hb hX hbl hbA hS (i := (nI ((6 * t) + 1))) (vp_in_nI (by omega) (by omega)) d_La_law_779 ?_
              refine aw_ti (y := nI j) (by rw [nI_clamp (by omega)]; exact hc0.symm) ?_
              refine lv_aload_n hx hb d_La_law_780 rfl (lv_at hl 0 rfl) ?_
              refine lv_iload hx hb d_La_law_781 (lv_at hl 4 rfl) ?_
              refine lv_iconst (v := nI 2) hx hb d_La_law_783 (by decide +kernel) ?_
              refine lv_iadd hx hb d_La_law_784 ?_
              refine aw_ti (nI_add (6 * t) 2) ?_
              refine va_sld hx hb hX hbl hbA hS (i := (nI ((6 * t) + 2))) (vp_in_nI (by omega) (by omega)) d_La_law_785 ?_
              refine aw_ti (y := fr) (by rw [nI_clamp (by omega)]; exact hfr.symm) ?_
              refine lv_aload_n hx hb d_La_law_786 rfl (lv_at hl 0 rfl) ?_
              refine lv_iload hx hb d_La_law_787 (lv_at hl 4 rfl) ?_
              refine lv_iconst (v := nI 3) hx hb d_La_law_789 (by decide +kernel) ?_
              refine lv_iadd hx hb d_La_law_790 ?_
              refine aw_ti (nI_add (6 * t) 3) ?_
              refine va_sld hx hb hX hbl hbA hS (i := (nI ((6 * t) + 3))) (vp_in_nI (by omega) (by omega)) d_La_law_791 ?_
              refine aw_ti (y := nI 0) (by rw [nI_clamp (by omega)]; exact hm0.symm) ?_
              refine lv_aload_n hx hb d_La_law_792 rfl (lv_at hl 3 rfl) ?_
              refine va_calli (vx_runSW (As := [.ref (aw_r ad 0), .int (nI j), .int fr, .int (nI 0), .ref (aw_o ad)]) (rest := []) ⟨hx, hb, hml, hown, hG⟩ (k_La_take10V l hst D g ad N0 zG zO zX zY zA zB zM zI zL zK zN zF zQ j fr hj (by omega)) (aw_wW 5 hG gw_8_40 gw_8_38 gw_0_0 gw_8_39 rfl rfl hd_La_take ⟨Nat.le_of_ble_eq_true rfl, Nat.le_of_ble_eq_true rfl⟩) (ag_qS hP hD hSh hU hS) rfl rfl hl.1 rfl (lv_room (Nat.le_of_ble_eq_true rfl)) d_La_law_793 ⟨by omega, by omega⟩) hS (fun _ _ h => h) (fun _ h => h) ?_
              clear hP hD hSh hS
              intro x417 u8 t8 H locs ht _ ex417 hB _ _ hS
              obtain ⟨L, hP, hD, hSh⟩ := hB
              rw [ht] at hP
              clear ht
              subst ex417
              obtain ⟨zY418, ezY418⟩ : ∃ z : Nat → Nat → Int32, v_La_take10V_zY zY j = z := ⟨_, rfl⟩
              rw [ezY418] at hSh
              obtain ⟨zQ419, ezQ419⟩ : ∃ z : Int64, v_La_take10V_zQ zY j = z := ⟨_, rfl⟩
              rw [ezQ419] at hSh
              refine lv_istore hx hb d_La_law_796 hl (by decide) rfl (fun ls hl => ?_)
              have hl : lv_has ls 8 [(5, .int (nI 0)), (0, .ref b), (1, .ref (aw_r ad 0)), (2, .ref (aw_m ad 0)), (3, .ref (aw_o ad)), (4, .int (nI (6 * t)))] := hl
              refine lv_aload_n hx hb d_La_law_798 rfl (lv_at hl 3 rfl) ?_
              refine lv_aload_n hx hb d_La_law_799 rfl (lv_at hl 1 rfl) ?_
              refine lv_iload hx hb d_La_law_800 (lv_at hl 5 rfl) ?_
              refine lv_iconst (v := nI 1) hx hb d_La_law_802 (by decide +kernel) ?_
              refine lv_iadd hx hb d_La_law_803 ?_
              refine aw_ti (nI_add (6 * t) 1) ?_
              refine va_sld hx hb hX hbl hbA hS (i := (nI ((6 * t) + 1))) (vp_in_nI (by omega) (by omega)) d_La_law_804 ?_
              refine aw_ti (y := nI j) (by rw [nI_clamp (by omega)]; exact hc0.symm) ?_
              refine lv_aload_n hx hb d_La_law_805 rfl (lv_at hl 1 rfl) ?_
              refine lv_iload hx hb d_La_law_806 (lv_at hl 5 rfl) ?_
              refine lv_iconst (v := nI 2) hx hb d_La_law_808 (by decide +kernel) ?_
              refine lv_iadd hx hb d_La_law_809 ?_
              refine aw_ti (nI_add (6 * t) 2) ?_
              refine va_sld hx hb hX hbl hbA hS (i := (nI ((6 * t) + 2))) (vp_in_nI (by omega) (by omega)) d_La_law_810 ?_
              refine aw_ti (y := fr) (by rw [nI_clamp (by omega)]; exact hfr.symm) ?_
              refine lv_aload_n hx hb d_La_law_811 rfl (lv_at hl 1 rfl) ?_
              refine lv_iload hx hb d_La_law_812 (lv_at hl 5 rfl) ?_
              refine lv_iconst (v := nI 3) hx hb d_La_law_814 (by decide +kernel) ?_
              refine lv_iadd hx hb d_La_law_815 ?_
              refine aw_ti (nI_add (6 * t) 3) ?_
              refine va_sld hx hb hX hbl hbA hS (i := (nI ((6 * t) + 3))) (vp_in_nI (by omega) (by omega)) d_La_law_816 ?_
              refine aw_ti (y := nI 0) (by rw [nI_clamp (by omega)]; exact hm0.symm) ?_
              obtain ⟨_, he420⟩ := zr_M0 hSh
              refine va_calli (va_runV (As := [.int (nI j), .int fr, .int (nI 0)]) (rest := []) ⟨hx, hb, hml, hown, hG⟩ (k_Mo_takeXbV l D g ad N0 zG zO zX zY418 zA zB zM zI zL zK zN zF zQ419 j fr (nI 0) hj hi) (aw_wV 3 hG gw_12_49 gw_12_46 gw_0_10 gw_12_47 gw_12_48 rfl rfl hd_Mo_take ⟨Nat.le_of_ble_eq_true rfl, Nat.le_of_ble_eq_true rfl⟩) (ag_qV (va_recv hK hP rfl he420) hP hD hSh hU hS) rfl rfl hl.1 rfl (lv_room (Nat.le_of_ble_eq_true rfl)) d_La_law_817 ⟨by omega, by omega⟩) hS (fun _ _ h => h) (fun _ h => h) ?_
              clear hP hD hSh hS he420
              intro x421 u8 t8 H locs ht _ ex421 hB _ _ hS
              obtain ⟨L, hP, hD, hSh⟩ := hB
              rw [ht] at hP
              clear ht
              have ex421 := ex421.symm
              refine lv_istore hx hb d_La_law_820 hl (by decide) rfl (fun ls hl => ?_)
              have hl : lv_has ls 8 [(6, .int x421), (5, .int (nI 0)), (0, .ref b), (1, .ref (aw_r ad 0)), (2, .ref (aw_m ad 0)), (3, .ref (aw_o ad)), (4, .int (nI (6 * t)))] := hl
              refine lv_goto (tgt := 853) hx hb d_La_law_822 (by decide) ?_
              refine lv_iinc (k := 6) (v := nI (6 * t + 6)) hx hb d_La_law_853 hl rfl (aw_inc (6 * t) 6 6 (by decide +kernel)) (by decide) rfl (fun ls hl => ?_)
              have hl : lv_has ls 8 [(4, .int (nI (6 * t + 6))), (6, .int x421), (5, .int (nI 0)), (0, .ref b), (1, .ref (aw_r ad 0)), (2, .ref (aw_m ad 0)), (3, .ref (aw_o ad))] := hl
              refine lv_goto (tgt := 23) hx hb d_La_law_856 (by decide) ?_
              have hl := lv_sub hl (l' := [(0, .ref b), (1, .ref (aw_r ad 0)), (2, .ref (aw_m ad 0)), (3, .ref (aw_o ad)), (4, .int (nI (6 * t + 6)))]) [3, 4, 5, 6, 0] rfl
              refine W.widen (k := 85 + (t + 1)) (n := 1246 + 6 * (t + 1)) (by omega) (by omega) ?_
              have hR : az_R zG zO zX zY418 zA zB zM zI zL := by
                subst ex421 ezQ419 ezY418
                exact r_take10_Xb hR hj hs
              exact ih (t + 1) zG zO zX zY418 zA zB zM zI zL zK zN (nI 1) zQ419 _ _ L ls (by omega) hP hD hSh hR hS (by first | exact hl | simpa [Nat.mul_add] using hl)
            · refine lv_aload_n hx hb d_La_law_773 rfl (lv_at hl 1 rfl) ?_
              refine lv_aload_n hx hb d_La_law_774 rfl (lv_at hl 0 rfl) ?_
              refine lv_iload hx hb d_La_law_775 (lv_at hl 4 rfl) ?_
              refine lv_iconst (v := nI 1) hx hb d_La_law_777 (by decide +kernel) ?_
              refine lv_iadd hx hb d_La_law_778 ?_
              refine aw_ti (nI_add (6 * t) 1) ?_
              refine va_sld hx hb hX hbl hbA hS (i := (nI ((6 * t) + 1))) (vp_in_nI (by omega) (by omega)) d_La_law_779 ?_
              refine aw_ti (y := nI j) (by rw [nI_clamp (by omega)]; exact hc0.symm) ?_
              refine lv_aload_n hx hb d_La_law_780 rfl (lv_at hl 0 rfl) ?_
              refine lv_iload hx hb d_La_law_781 (lv_at hl 4 rfl) ?_
              refine lv_iconst (v := nI 2) hx hb d_La_law_783 (by decide +kernel) ?_
              refine lv_iadd hx hb d_La_law_784 ?_
              refine aw_ti (nI_add (6 * t) 2) ?_
              refine va_sld hx hb hX hbl hbA hS (i := (nI ((6 * t) + 2))) (vp_in_nI (by omega) (by omega)) d_La_law_785 ?_
              refine aw_ti (y := fr) (by rw [nI_clamp (by omega)]; exact hfr.symm) ?_
              refine lv_aload_n hx hb d_La_law_786 rfl (lv_at hl 0 rfl) ?_
              refine lv_iload hx hb d_La_law_787 (lv_at hl 4 rfl) ?_
              refine lv_iconst (v := nI 3) hx hb d_La_law_789 (by decide +kernel) ?_
              refine lv_iadd hx hb d_La_law_790 ?_
              refine aw_ti (nI_add (6 * t) 3) ?_
              refine va_sld hx hb hX hbl hbA hS (i := (nI ((6 * t) + 3))) (vp_in_nI (by omega) (by omega)) d_La_law_791 ?_
              refine aw_ti (y := nI 0) (by rw [nI_clamp (by omega)]; exact hm0.symm) ?_
              refine lv_aload_n hx hb d_La_law_792 rfl (lv_at hl 3 rfl) ?_
              refine va_calli (vx_runSW (As := [.ref (aw_r ad 0), .int (nI j), .int fr, .int (nI 0), .ref (aw_o ad)]) (rest := []) ⟨hx, hb, hml, hown, hG⟩ (k_La_takeXs0V l hst D g ad N0 zG zO zX zY zA zB zM zI zL zK zN zF zQ j fr hj (by omega)) (aw_wW 5 hG gw_8_40 gw_8_38 gw_0_0 gw_8_39 rfl rfl hd_La_take ⟨Nat.le_of_ble_eq_true rfl, Nat.le_of_ble_eq_true rfl⟩) (ag_qS hP hD hSh hU hS) rfl rfl hl.1 rfl (lv_room (Nat.le_of_ble_eq_true rfl)) d_La_law_793 ⟨by omega, by omega⟩) hS (fun _ _ h => h) (fun _ h => h) ?_
              clear hP hD hSh hS
              intro x422 u8 t8 H locs ht _ ex422 hB _ _ hS
              obtain ⟨L, hP, hD, hSh⟩ := hB
              rw [ht] at hP
              clear ht
              subst ex422
              refine lv_istore hx hb d_La_law_796 hl (by decide) rfl (fun ls hl => ?_)
              have hl : lv_has ls 8 [(5, .int (nI 2)), (0, .ref b), (1, .ref (aw_r ad 0)), (2, .ref (aw_m ad 0)), (3, .ref (aw_o ad)), (4, .int (nI (6 * t)))] := hl
              refine lv_aload_n hx hb d_La_law_798 rfl (lv_at hl 3 rfl) ?_
              refine lv_aload_n hx hb d_La_law_799 rfl (lv_at hl 1 rfl) ?_
              refine lv_iload hx hb d_La_law_800 (lv_at hl 5 rfl) ?_
              refine lv_iconst (v := nI 1) hx hb d_La_law_802 (by decide +kernel) ?_
              refine lv_iadd hx hb d_La_law_803 ?_
              refine aw_ti (nI_add (6 * t) 1) ?_
              refine va_sld hx hb hX hbl hbA hS (i := (nI ((6 * t) + 1))) (vp_in_nI (by omega) (by omega)) d_La_law_804 ?_
              refine aw_ti (y := nI j) (by rw [nI_clamp (by omega)]; exact hc0.symm) ?_
              refine lv_aload_n hx hb d_La_law_805 rfl (lv_at hl 1 rfl) ?_
              refine lv_iload hx hb d_La_law_806 (lv_at hl 5 rfl) ?_
              refine lv_iconst (v := nI 2) hx hb d_La_law_808 (by decide +kernel) ?_
              refine lv_iadd hx hb d_La_law_809 ?_
              refine aw_ti (nI_add (6 * t) 2) ?_
              refine va_sld hx hb hX hbl hbA hS (i := (nI ((6 * t) + 2))) (vp_in_nI (by omega) (by omega)) d_La_law_810 ?_
              refine aw_ti (y := fr) (by rw [nI_clamp (by omega)]; exact hfr.symm) ?_
              refine lv_aload_n hx hb d_La_law_811 rfl (lv_at hl 1 rfl) ?_
              refine lv_iload hx hb d_La_law_812 (lv_at hl 5 rfl) ?_
              refine lv_iconst (v := nI 3) hx hb d_La_law_814 (by decide +kernel) ?_
              refine lv_iadd hx hb d_La_law_815 ?_
              refine aw_ti (nI_add (6 * t) 3) ?_
              refine va_sld hx hb hX hbl hbA hS (i := (nI ((6 * t) + 3))) (vp_in_nI (by omega) (by omega)) d_La_law_816 ?_
              refine aw_ti (y := nI 0) (by rw [nI_clamp (by omega)]; exact hm0.symm) ?_
              obtain ⟨_, he423⟩ := zr_M0 hSh
              refine va_calli (va_runV (As := [.int (nI j), .int fr, .int (nI 0)]) (rest := []) ⟨hx, hb, hml, hown, hG⟩ (k_Mo_takeXbV l D g ad N0 zG zO zX zY zA zB zM zI zL zK zN zF zQ j fr (nI 0) hj hi) (aw_wV 3 hG gw_12_49 gw_12_46 gw_0_10 gw_12_47 gw_12_48 rfl rfl hd_Mo_take ⟨Nat.le_of_ble_eq_true rfl, Nat.le_of_ble_eq_true rfl⟩) (ag_qV (va_recv hK hP rfl he423) hP hD hSh hU hS) rfl rfl hl.1 rfl (lv_room (Nat.le_of_ble_eq_true rfl)) d_La_law_817 ⟨by omega, by omega⟩) hS (fun _ _ h => h) (fun _ h => h) ?_
              clear hP hD hSh hS he423
              intro x424 u8 t8 H locs ht _ ex424 hB _ _ hS
              obtain ⟨L, hP, hD, hSh⟩ := hB
              rw [ht] at hP
              clear ht
              have ex424 := ex424.symm
              refine lv_istore hx hb d_La_law_820 hl (by decide) rfl (fun ls hl => ?_)
              have hl : lv_has ls 8 [(6, .int x424), (5, .int (nI 2)), (0, .ref b), (1, .ref (aw_r ad 0)), (2, .ref (aw_m ad 0)), (3, .ref (aw_o ad)), (4, .int (nI (6 * t)))] := hl
              refine lv_goto (tgt := 853) hx hb d_La_law_822 (by decide) ?_
              refine lv_iinc (k := 6) (v := nI (6 * t + 6)) hx hb d_La_law_853 hl rfl (aw_inc (6 * t) 6 6 (by decide +kernel)) (by decide) rfl (fun ls hl => ?_)
              have hl : lv_has ls 8 [(4, .int (nI (6 * t + 6))), (6, .int x424), (5, .int (nI 2)), (0, .ref b), (1, .ref (aw_r ad 0)), (2, .ref (aw_m ad 0)), (3, .ref (aw_o ad))] := hl
              refine lv_goto (tgt := 23) hx hb d_La_law_856 (by decide) ?_
              have hl := lv_sub hl (l' := [(0, .ref b), (1, .ref (aw_r ad 0)), (2, .ref (aw_m ad 0)), (3, .ref (aw_o ad)), (4, .int (nI (6 * t + 6)))]) [3, 4, 5, 6, 0] rfl
              refine W.widen (k := 85 + (t + 1)) (n := 1246 + 6 * (t + 1)) (by omega) (by omega) ?_
              exact ih (t + 1) zG zO zX zY zA zB zM zI zL zK zN (nI 1) zQ _ _ L ls (by omega) hP hD hSh hR hS (by first | exact hl | simpa [Nat.mul_add] using hl)
          · by_cases hs : (zG j).1 = 3 ∧ (zG j).2 = 5
            · obtain ⟨kc, hkc, hci, hco⟩ := hR.2.1 j hj (by omega)
              refine lv_aload_n hx hb d_La_law_773 rfl (lv_at hl 1 rfl) ?_
              refine lv_aload_n hx hb d_La_law_774 rfl (lv_at hl 0 rfl) ?_
              refine lv_iload hx hb d_La_law_775 (lv_at hl 4 rfl) ?_
              refine lv_iconst (v := nI 1) hx hb d_La_law_777 (by decide +kernel) ?_
              refine lv_iadd hx hb d_La_law_778 ?_
              refine aw_ti (nI_add (6 * t) 1) ?_
              refine va_sld hx hb hX hbl hbA hS (i := (nI ((6 * t) + 1))) (vp_in_nI (by omega) (by omega)) d_La_law_779 ?_
              refine aw_ti (y := nI j) (by rw [nI_clamp (by omega)]; exact hc0.symm) ?_
              refine lv_aload_n hx hb d_La_law_780 rfl (lv_at hl 0 rfl) ?_
              refine lv_iload hx hb d_La_law_781 (lv_at hl 4 rfl) ?_
              refine lv_iconst (v := nI 2) hx hb d_La_law_783 (by decide +kernel) ?_
              refine lv_iadd hx hb d_La_law_784 ?_
              refine aw_ti (nI_add (6 * t) 2) ?_
              refine va_sld hx hb hX hbl hbA hS (i := (nI ((6 * t) + 2))) (vp_in_nI (by omega) (by omega)) d_La_law_785 ?_
              refine aw_ti (y := nI k) (by rw [nI_clamp (by omega)]; exact hfr.symm) ?_
              refine lv_aload_n hx hb d_La_law_786 rfl (lv_at hl 0 rfl) ?_
              refine lv_iload hx hb d_La_law_787 (lv_at hl 4 rfl) ?_
              refine lv_iconst (v := nI 3) hx hb d_La_law_789 (by decide +kernel) ?_
              refine lv_iadd hx hb d_La_law_790 ?_
              refine aw_ti (nI_add (6 * t) 3) ?_
              refine va_sld hx hb hX hbl hbA hS (i := (nI ((6 * t) + 3))) (vp_in_nI (by omega) (by omega)) d_La_law_791 ?_
              refine aw_ti (y := nI 0) (by rw [nI_clamp (by omega)]; exact hm0.symm) ?_
              refine lv_aload_n hx hb d_La_law_792 rfl (lv_at hl 3 rfl) ?_
              refine va_calli (vx_runSW (As := [.ref (aw_r ad 0), .int (nI j), .int (nI k), .int (nI 0), .ref (aw_o ad)]) (rest := []) ⟨hx, hb, hml, hown, hG⟩ (k_La_take10V l hst D g ad N0 zG zO zX zY zA zB zM zI zL zK zN zF zQ j (nI k) hj (by omega)) (aw_wW 5 hG gw_8_40 gw_8_38 gw_0_0 gw_8_39 rfl rfl hd_La_take ⟨Nat.le_of_ble_eq_true rfl, Nat.le_of_ble_eq_true rfl⟩) (ag_qS hP hD hSh hU hS) rfl rfl hl.1 rfl (lv_room (Nat.le_of_ble_eq_true rfl)) d_La_law_793 ⟨by omega, by omega⟩) hS (fun _ _ h => h) (fun _ h => h) ?_
              clear hP hD hSh hS
              intro x425 u8 t8 H locs ht _ ex425 hB _ _ hS
              obtain ⟨L, hP, hD, hSh⟩ := hB
              rw [ht] at hP
              clear ht
              subst ex425
              obtain ⟨zY426, ezY426⟩ : ∃ z : Nat → Nat → Int32, v_La_take10V_zY zY j = z := ⟨_, rfl⟩
              rw [ezY426] at hSh
              obtain ⟨zQ427, ezQ427⟩ : ∃ z : Int64, v_La_take10V_zQ zY j = z := ⟨_, rfl⟩
              rw [ezQ427] at hSh
              refine lv_istore hx hb d_La_law_796 hl (by decide) rfl (fun ls hl => ?_)
              have hl : lv_has ls 8 [(5, .int (nI 0)), (0, .ref b), (1, .ref (aw_r ad 0)), (2, .ref (aw_m ad 0)), (3, .ref (aw_o ad)), (4, .int (nI (6 * t)))] := hl
              refine lv_aload_n hx hb d_La_law_798 rfl (lv_at hl 3 rfl) ?_
              refine lv_aload_n hx hb d_La_law_799 rfl (lv_at hl 1 rfl) ?_
              refine lv_iload hx hb d_La_law_800 (lv_at hl 5 rfl) ?_
              refine lv_iconst (v := nI 1) hx hb d_La_law_802 (by decide +kernel) ?_
              refine lv_iadd hx hb d_La_law_803 ?_
              refine aw_ti (nI_add (6 * t) 1) ?_
              refine va_sld hx hb hX hbl hbA hS (i := (nI ((6 * t) + 1))) (vp_in_nI (by omega) (by omega)) d_La_law_804 ?_
              refine aw_ti (y := nI j) (by rw [nI_clamp (by omega)]; exact hc0.symm) ?_
              refine lv_aload_n hx hb d_La_law_805 rfl (lv_at hl 1 rfl) ?_
              refine lv_iload hx hb d_La_law_806 (lv_at hl 5 rfl) ?_
              refine lv_iconst (v := nI 2) hx hb d_La_law_808 (by decide +kernel) ?_
              refine lv_iadd hx hb d_La_law_809 ?_
              refine aw_ti (nI_add (6 * t) 2) ?_
              refine va_sld hx hb hX hbl hbA hS (i := (nI ((6 * t) + 2))) (vp_in_nI (by omega) (by omega)) d_La_law_810 ?_
              refine aw_ti (y := nI k) (by rw [nI_clamp (by omega)]; exact hfr.symm) ?_
              refine lv_aload_n hx hb d_La_law_811 rfl (lv_at hl 1 rfl) ?_
              refine lv_iload hx hb d_La_law_812 (lv_at hl 5 rfl) ?_
              refine lv_iconst (v := nI 3) hx hb d_La_law_814 (by decide +kernel) ?_
              refine lv_iadd hx hb d_La_law_815 ?_
              refine aw_ti (nI_add (6 * t) 3) ?_
              refine va_sld hx hb hX hbl hbA hS (i := (nI ((6 * t) + 3))) (vp_in_nI (by omega) (by omega)) d_La_law_816 ?_
              refine aw_ti (y := nI 0) (by rw [nI_clamp (by omega)]; exact hm0.symm) ?_
              obtain ⟨_, he428⟩ := zr_M0 hSh
              refine va_calli (va_runV (As := [.int (nI j), .int (nI k), .int (nI 0)]) (rest := []) ⟨hx, hb, hml, hown, hG⟩ (k_Mo_take1V l D g ad N0 zG zO zX zY426 zA zB zM zI zL zK zN zF zQ427 j kc k 0 hj (by omega) (by omega) hkc hci) (aw_wV 3 hG gw_12_49 gw_12_46 gw_0_10 gw_12_47 gw_12_48 rfl rfl hd_Mo_take ⟨Nat.le_of_ble_eq_true rfl, Nat.le_of_ble_eq_true rfl⟩) (ag_qV (va_recv hK hP rfl he428) hP hD hSh hU hS) rfl rfl hl.1 rfl (lv_room (Nat.le_of_ble_eq_true rfl)) d_La_law_817 ⟨by omega, by omega⟩) hS (fun _ _ h => h) (fun _ h => h) ?_
              clear hP hD hSh hS he428
              intro x429 u8 t8 H locs ht _ ex429 hB _ _ hS
              obtain ⟨L, hP, hD, hSh⟩ := hB
              rw [ht] at hP
              clear ht
              obtain ⟨zI430, ezI430⟩ : ∃ z : Nat → Nat → Int32, v_Mo_take1V_zI zI zL j kc k 0 = z := ⟨_, rfl⟩
              rw [ezI430] at hSh
              obtain ⟨zL431, ezL431⟩ : ∃ z : Nat → Nat → Int64, v_Mo_take1V_zL zI zL j kc k 0 = z := ⟨_, rfl⟩
              rw [ezL431] at hSh
              have ex429 := ex429.symm
              refine lv_istore hx hb d_La_law_820 hl (by decide) rfl (fun ls hl => ?_)
              have hl : lv_has ls 8 [(6, .int x429), (5, .int (nI 0)), (0, .ref b), (1, .ref (aw_r ad 0)), (2, .ref (aw_m ad 0)), (3, .ref (aw_o ad)), (4, .int (nI (6 * t)))] := hl
              refine lv_goto (tgt := 853) hx hb d_La_law_822 (by decide) ?_
              refine lv_iinc (k := 6) (v := nI (6 * t + 6)) hx hb d_La_law_853 hl rfl (aw_inc (6 * t) 6 6 (by decide +kernel)) (by decide) rfl (fun ls hl => ?_)
              have hl : lv_has ls 8 [(4, .int (nI (6 * t + 6))), (6, .int x429), (5, .int (nI 0)), (0, .ref b), (1, .ref (aw_r ad 0)), (2, .ref (aw_m ad 0)), (3, .ref (aw_o ad))] := hl
              refine lv_goto (tgt := 23) hx hb d_La_law_856 (by decide) ?_
              have hl := lv_sub hl (l' := [(0, .ref b), (1, .ref (aw_r ad 0)), (2, .ref (aw_m ad 0)), (3, .ref (aw_o ad)), (4, .int (nI (6 * t + 6)))]) [3, 4, 5, 6, 0] rfl
              refine W.widen (k := 85 + (t + 1)) (n := 1246 + 6 * (t + 1)) (by omega) (by omega) ?_
              have hR : az_R zG zO zX zY426 zA zB zM zI430 zL431 := by
                subst ex429 ezL431 ezI430 ezQ427 ezY426
                exact r_take10_1 hR hj hs hk hkc hci hco
              exact ih (t + 1) zG zO zX zY426 zA zB zM zI430 zL431 (nI kc) (az_wn kc) (nI 0) zQ427 _ _ L ls (by omega) hP hD hSh hR hS (by first | exact hl | simpa [Nat.mul_add] using hl)
            · refine lv_aload_n hx hb d_La_law_773 rfl (lv_at hl 1 rfl) ?_
              refine lv_aload_n hx hb d_La_law_774 rfl (lv_at hl 0 rfl) ?_
              refine lv_iload hx hb d_La_law_775 (lv_at hl 4 rfl) ?_
              refine lv_iconst (v := nI 1) hx hb d_La_law_777 (by decide +kernel) ?_
              refine lv_iadd hx hb d_La_law_778 ?_
              refine aw_ti (nI_add (6 * t) 1) ?_
              refine va_sld hx hb hX hbl hbA hS (i := (nI ((6 * t) + 1))) (vp_in_nI (by omega) (by omega)) d_La_law_779 ?_
              refine aw_ti (y := nI j) (by rw [nI_clamp (by omega)]; exact hc0.symm) ?_
              refine lv_aload_n hx hb d_La_law_780 rfl (lv_at hl 0 rfl) ?_
              refine lv_iload hx hb d_La_law_781 (lv_at hl 4 rfl) ?_
              refine lv_iconst (v := nI 2) hx hb d_La_law_783 (by decide +kernel) ?_
              refine lv_iadd hx hb d_La_law_784 ?_
              refine aw_ti (nI_add (6 * t) 2) ?_
              refine va_sld hx hb hX hbl hbA hS (i := (nI ((6 * t) + 2))) (vp_in_nI (by omega) (by omega)) d_La_law_785 ?_
              refine aw_ti (y := nI k) (by rw [nI_clamp (by omega)]; exact hfr.symm) ?_
              refine lv_aload_n hx hb d_La_law_786 rfl (lv_at hl 0 rfl) ?_
              refine lv_iload hx hb d_La_law_787 (lv_at hl 4 rfl) ?_
              refine lv_iconst (v := nI 3) hx hb d_La_law_789 (by decide +kernel) ?_
              refine lv_iadd hx hb d_La_law_790 ?_
              refine aw_ti (nI_add (6 * t) 3) ?_
              refine va_sld hx hb hX hbl hbA hS (i := (nI ((6 * t) + 3))) (vp_in_nI (by omega) (by omega)) d_La_law_791 ?_
              refine aw_ti (y := nI 0) (by rw [nI_clamp (by omega)]; exact hm0.symm) ?_
              refine lv_aload_n hx hb d_La_law_792 rfl (lv_at hl 3 rfl) ?_
              refine va_calli (vx_runSW (As := [.ref (aw_r ad 0), .int (nI j), .int (nI k), .int (nI 0), .ref (aw_o ad)]) (rest := []) ⟨hx, hb, hml, hown, hG⟩ (k_La_takeXs0V l hst D g ad N0 zG zO zX zY zA zB zM zI zL zK zN zF zQ j (nI k) hj (by omega)) (aw_wW 5 hG gw_8_40 gw_8_38 gw_0_0 gw_8_39 rfl rfl hd_La_take ⟨Nat.le_of_ble_eq_true rfl, Nat.le_of_ble_eq_true rfl⟩) (ag_qS hP hD hSh hU hS) rfl rfl hl.1 rfl (lv_room (Nat.le_of_ble_eq_true rfl)) d_La_law_793 ⟨by omega, by omega⟩) hS (fun _ _ h => h) (fun _ h => h) ?_
              clear hP hD hSh hS
              intro x432 u8 t8 H locs ht _ ex432 hB _ _ hS
              obtain ⟨L, hP, hD, hSh⟩ := hB
              rw [ht] at hP
              clear ht
              subst ex432
              refine lv_istore hx hb d_La_law_796 hl (by decide) rfl (fun ls hl => ?_)
              have hl : lv_has ls 8 [(5, .int (nI 2)), (0, .ref b), (1, .ref (aw_r ad 0)), (2, .ref (aw_m ad 0)), (3, .ref (aw_o ad)), (4, .int (nI (6 * t)))] := hl
              refine lv_aload_n hx hb d_La_law_798 rfl (lv_at hl 3 rfl) ?_
              refine lv_aload_n hx hb d_La_law_799 rfl (lv_at hl 1 rfl) ?_
              refine lv_iload hx hb d_La_law_800 (lv_at hl 5 rfl) ?_
              refine lv_iconst (v := nI 1) hx hb d_La_law_802 (by decide +kernel) ?_
              refine lv_iadd hx hb d_La_law_803 ?_
              refine aw_ti (nI_add (6 * t) 1) ?_
              refine va_sld hx hb hX hbl hbA hS (i := (nI ((6 * t) + 1))) (vp_in_nI (by omega) (by omega)) d_La_law_804 ?_
              refine aw_ti (y := nI j) (by rw [nI_clamp (by omega)]; exact hc0.symm) ?_
              refine lv_aload_n hx hb d_La_law_805 rfl (lv_at hl 1 rfl) ?_
              refine lv_iload hx hb d_La_law_806 (lv_at hl 5 rfl) ?_
              refine lv_iconst (v := nI 2) hx hb d_La_law_808 (by decide +kernel) ?_
              refine lv_iadd hx hb d_La_law_809 ?_
              refine aw_ti (nI_add (6 * t) 2) ?_
              refine va_sld hx hb hX hbl hbA hS (i := (nI ((6 * t) + 2))) (vp_in_nI (by omega) (by omega)) d_La_law_810 ?_
              refine aw_ti (y := nI k) (by rw [nI_clamp (by omega)]; exact hfr.symm) ?_
              refine lv_aload_n hx hb d_La_law_811 rfl (lv_at hl 1 rfl) ?_
              refine lv_iload hx hb d_La_law_812 (lv_at hl 5 rfl) ?_
              refine lv_iconst (v := nI 3) hx hb d_La_law_814 (by decide +kernel) ?_
              refine lv_iadd hx hb d_La_law_815 ?_
              refine aw_ti (nI_add (6 * t) 3) ?_
              refine va_sld hx hb hX hbl hbA hS (i := (nI ((6 * t) + 3))) (vp_in_nI (by omega) (by omega)) d_La_law_816 ?_
              refine aw_ti (y := nI 0) (by rw [nI_clamp (by omega)]; exact hm0.symm) ?_
              obtain ⟨_, he433⟩ := zr_M0 hSh
              refine va_calli (va_runV (As := [.int (nI j), .int (nI k), .int (nI 0)]) (rest := []) ⟨hx, hb, hml, hown, hG⟩ (k_Mo_takeXsV l D g ad N0 zG zO zX zY zA zB zM zI zL zK zN zF zQ j k 0 hj (by omega) (by omega)) (aw_wV 3 hG gw_12_49 gw_12_46 gw_0_10 gw_12_47 gw_12_48 rfl rfl hd_Mo_take ⟨Nat.le_of_ble_eq_true rfl, Nat.le_of_ble_eq_true rfl⟩) (ag_qV (va_recv hK hP rfl he433) hP hD hSh hU hS) rfl rfl hl.1 rfl (lv_room (Nat.le_of_ble_eq_true rfl)) d_La_law_817 ⟨by omega, by omega⟩) hS (fun _ _ h => h) (fun _ h => h) ?_
              clear hP hD hSh hS he433
              intro x434 u8 t8 H locs ht _ ex434 hB _ _ hS
              obtain ⟨L, hP, hD, hSh⟩ := hB
              rw [ht] at hP
              clear ht
              have ex434 := ex434.symm
              refine lv_istore hx hb d_La_law_820 hl (by decide) rfl (fun ls hl => ?_)
              have hl : lv_has ls 8 [(6, .int x434), (5, .int (nI 2)), (0, .ref b), (1, .ref (aw_r ad 0)), (2, .ref (aw_m ad 0)), (3, .ref (aw_o ad)), (4, .int (nI (6 * t)))] := hl
              refine lv_goto (tgt := 853) hx hb d_La_law_822 (by decide) ?_
              refine lv_iinc (k := 6) (v := nI (6 * t + 6)) hx hb d_La_law_853 hl rfl (aw_inc (6 * t) 6 6 (by decide +kernel)) (by decide) rfl (fun ls hl => ?_)
              have hl : lv_has ls 8 [(4, .int (nI (6 * t + 6))), (6, .int x434), (5, .int (nI 2)), (0, .ref b), (1, .ref (aw_r ad 0)), (2, .ref (aw_m ad 0)), (3, .ref (aw_o ad))] := hl
              refine lv_goto (tgt := 23) hx hb d_La_law_856 (by decide) ?_
              have hl := lv_sub hl (l' := [(0, .ref b), (1, .ref (aw_r ad 0)), (2, .ref (aw_m ad 0)), (3, .ref (aw_o ad)), (4, .int (nI (6 * t + 6)))]) [3, 4, 5, 6, 0] rfl
              refine W.widen (k := 85 + (t + 1)) (n := 1246 + 6 * (t + 1)) (by omega) (by omega) ?_
              exact ih (t + 1) zG zO zX zY zA zB zM zI zL zK zN (nI 2) zQ _ _ L ls (by omega) hP hD hSh hR hS (by first | exact hl | simpa [Nat.mul_add] using hl)
        · by_cases hs : (zG j).1 = 3 ∧ (zG j).2 = 5
          · obtain ⟨kc, hkc, hci, hco⟩ := hR.2.1 j hj (by omega)
            refine lv_aload_n hx hb d_La_law_773 rfl (lv_at hl 1 rfl) ?_
            refine lv_aload_n hx hb d_La_law_774 rfl (lv_at hl 0 rfl) ?_
            refine lv_iload hx hb d_La_law_775 (lv_at hl 4 rfl) ?_
            refine lv_iconst (v := nI 1) hx hb d_La_law_777 (by decide +kernel) ?_
            refine lv_iadd hx hb d_La_law_778 ?_
            refine aw_ti (nI_add (6 * t) 1) ?_
            refine va_sld hx hb hX hbl hbA hS (i := (nI ((6 * t) + 1))) (vp_in_nI (by omega) (by omega)) d_La_law_779 ?_
            refine aw_ti (y := nI j) (by rw [nI_clamp (by omega)]; exact hc0.symm) ?_
            refine lv_aload_n hx hb d_La_law_780 rfl (lv_at hl 0 rfl) ?_
            refine lv_iload hx hb d_La_law_781 (lv_at hl 4 rfl) ?_
            refine lv_iconst (v := nI 2) hx hb d_La_law_783 (by decide +kernel) ?_
            refine lv_iadd hx hb d_La_law_784 ?_
            refine aw_ti (nI_add (6 * t) 2) ?_
            refine va_sld hx hb hX hbl hbA hS (i := (nI ((6 * t) + 2))) (vp_in_nI (by omega) (by omega)) d_La_law_785 ?_
            refine aw_ti (y := nI k) (by rw [nI_clamp (by omega)]; exact hfr.symm) ?_
            refine lv_aload_n hx hb d_La_law_786 rfl (lv_at hl 0 rfl) ?_
            refine lv_iload hx hb d_La_law_787 (lv_at hl 4 rfl) ?_
            refine lv_iconst (v := nI 3) hx hb d_La_law_789 (by decide +kernel) ?_
            refine lv_iadd hx hb d_La_law_790 ?_
            refine aw_ti (nI_add (6 * t) 3) ?_
            refine va_sld hx hb hX hbl hbA hS (i := (nI ((6 * t) + 3))) (vp_in_nI (by omega) (by omega)) d_La_law_791 ?_
            refine aw_ti (y := nI mm) (by rw [nI_clamp (by omega)]; exact hm0.symm) ?_
            refine lv_aload_n hx hb d_La_law_792 rfl (lv_at hl 3 rfl) ?_
            refine va_calli (vx_runSW (As := [.ref (aw_r ad 0), .int (nI j), .int (nI k), .int (nI mm), .ref (aw_o ad)]) (rest := []) ⟨hx, hb, hml, hown, hG⟩ (k_La_take11V l hst D g ad N0 zG zO zX zY zA zB zM zI zL zK zN zF zQ j k mm hj (by omega) (by omega) (by omega)) (aw_wW 5 hG gw_8_40 gw_8_38 gw_0_0 gw_8_39 rfl rfl hd_La_take ⟨Nat.le_of_ble_eq_true rfl, Nat.le_of_ble_eq_true rfl⟩) (ag_qS hP hD hSh hU hS) rfl rfl hl.1 rfl (lv_room (Nat.le_of_ble_eq_true rfl)) d_La_law_793 ⟨by omega, by omega⟩) hS (fun _ _ h => h) (fun _ h => h) ?_
            clear hP hD hSh hS
            intro x435 u8 t8 H locs ht _ ex435 hB _ _ hS
            obtain ⟨L, hP, hD, hSh⟩ := hB
            rw [ht] at hP
            clear ht
            subst ex435
            obtain ⟨zX436, ezX436⟩ : ∃ z : Nat → Nat → Int64, v_La_take11V_zX zO zX zY zA zB j k mm = z := ⟨_, rfl⟩
            rw [ezX436] at hSh
            obtain ⟨zY437, ezY437⟩ : ∃ z : Nat → Nat → Int32, v_La_take11V_zY zO zX zY zA zB j k mm = z := ⟨_, rfl⟩
            rw [ezY437] at hSh
            obtain ⟨zQ438, ezQ438⟩ : ∃ z : Int64, v_La_take11V_zQ zO zX zY zA zB j k mm = z := ⟨_, rfl⟩
            rw [ezQ438] at hSh
            refine lv_istore hx hb d_La_law_796 hl (by decide) rfl (fun ls hl => ?_)
            have hl : lv_has ls 8 [(5, .int (nI 0)), (0, .ref b), (1, .ref (aw_r ad 0)), (2, .ref (aw_m ad 0)), (3, .ref (aw_o ad)), (4, .int (nI (6 * t)))] := hl
            refine lv_aload_n hx hb d_La_law_798 rfl (lv_at hl 3 rfl) ?_
            refine lv_aload_n hx hb d_La_law_799 rfl (lv_at hl 1 rfl) ?_
            refine lv_iload hx hb d_La_law_800 (lv_at hl 5 rfl) ?_
            refine lv_iconst (v := nI 1) hx hb d_La_law_802 (by decide +kernel) ?_
            refine lv_iadd hx hb d_La_law_803 ?_
            refine aw_ti (nI_add (6 * t) 1) ?_
            refine va_sld hx hb hX hbl hbA hS (i := (nI ((6 * t) + 1))) (vp_in_nI (by omega) (by omega)) d_La_law_804 ?_
            refine aw_ti (y := nI j) (by rw [nI_clamp (by omega)]; exact hc0.symm) ?_
            refine lv_aload_n hx hb d_La_law_805 rfl (lv_at hl 1 rfl) ?_
            refine lv_iload hx hb d_La_law_806 (lv_at hl 5 rfl) ?_
            refine lv_iconst (v := nI 2) hx hb d_La_law_808 (by decide +kernel) ?_
            refine lv_iadd hx hb d_La_law_809 ?_
            refine aw_ti (nI_add (6 * t) 2) ?_
            refine va_sld hx hb hX hbl hbA hS (i := (nI ((6 * t) + 2))) (vp_in_nI (by omega) (by omega)) d_La_law_810 ?_
            refine aw_ti (y := nI k) (by rw [nI_clamp (by omega)]; exact hfr.symm) ?_
            refine lv_aload_n hx hb d_La_law_811 rfl (lv_at hl 1 rfl) ?_
            refine lv_iload hx hb d_La_law_812 (lv_at hl 5 rfl) ?_
            refine lv_iconst (v := nI 3) hx hb d_La_law_814 (by decide +kernel) ?_
            refine lv_iadd hx hb d_La_law_815 ?_
            refine aw_ti (nI_add (6 * t) 3) ?_
            refine va_sld hx hb hX hbl hbA hS (i := (nI ((6 * t) + 3))) (vp_in_nI (by omega) (by omega)) d_La_law_816 ?_
            refine aw_ti (y := nI mm) (by rw [nI_clamp (by omega)]; exact hm0.symm) ?_
            obtain ⟨_, he439⟩ := zr_M0 hSh
            refine va_calli (va_runV (As := [.int (nI j), .int (nI k), .int (nI mm)]) (rest := []) ⟨hx, hb, hml, hown, hG⟩ (k_Mo_take1V l D g ad N0 zG zO zX436 zY437 zA zB zM zI zL zK zN zF zQ438 j kc k mm hj (by omega) (by omega) hkc hci) (aw_wV 3 hG gw_12_49 gw_12_46 gw_0_10 gw_12_47 gw_12_48 rfl rfl hd_Mo_take ⟨Nat.le_of_ble_eq_true rfl, Nat.le_of_ble_eq_true rfl⟩) (ag_qV (va_recv hK hP rfl he439) hP hD hSh hU hS) rfl rfl hl.1 rfl (lv_room (Nat.le_of_ble_eq_true rfl)) d_La_law_817 ⟨by omega, by omega⟩) hS (fun _ _ h => h) (fun _ h => h) ?_
            clear hP hD hSh hS he439
            intro x440 u8 t8 H locs ht _ ex440 hB _ _ hS
            obtain ⟨L, hP, hD, hSh⟩ := hB
            rw [ht] at hP
            clear ht
            obtain ⟨zI441, ezI441⟩ : ∃ z : Nat → Nat → Int32, v_Mo_take1V_zI zI zL j kc k mm = z := ⟨_, rfl⟩
            rw [ezI441] at hSh
            obtain ⟨zL442, ezL442⟩ : ∃ z : Nat → Nat → Int64, v_Mo_take1V_zL zI zL j kc k mm = z := ⟨_, rfl⟩
            rw [ezL442] at hSh
            have ex440 := ex440.symm
            refine lv_istore hx hb d_La_law_820 hl (by decide) rfl (fun ls hl => ?_)
            have hl : lv_has ls 8 [(6, .int x440), (5, .int (nI 0)), (0, .ref b), (1, .ref (aw_r ad 0)), (2, .ref (aw_m ad 0)), (3, .ref (aw_o ad)), (4, .int (nI (6 * t)))] := hl
            refine lv_goto (tgt := 853) hx hb d_La_law_822 (by decide) ?_
            refine lv_iinc (k := 6) (v := nI (6 * t + 6)) hx hb d_La_law_853 hl rfl (aw_inc (6 * t) 6 6 (by decide +kernel)) (by decide) rfl (fun ls hl => ?_)
            have hl : lv_has ls 8 [(4, .int (nI (6 * t + 6))), (6, .int x440), (5, .int (nI 0)), (0, .ref b), (1, .ref (aw_r ad 0)), (2, .ref (aw_m ad 0)), (3, .ref (aw_o ad))] := hl
            refine lv_goto (tgt := 23) hx hb d_La_law_856 (by decide) ?_
            have hl := lv_sub hl (l' := [(0, .ref b), (1, .ref (aw_r ad 0)), (2, .ref (aw_m ad 0)), (3, .ref (aw_o ad)), (4, .int (nI (6 * t + 6)))]) [3, 4, 5, 6, 0] rfl
            refine W.widen (k := 85 + (t + 1)) (n := 1246 + 6 * (t + 1)) (by omega) (by omega) ?_
            have hR : az_R zG zO zX436 zY437 zA zB zM zI441 zL442 := by
              subst ex440 ezL442 ezI441 ezQ438 ezY437 ezX436
              exact r_take11_1 hR hj hs h0 hk hkc hci hco
            exact ih (t + 1) zG zO zX436 zY437 zA zB zM zI441 zL442 (nI kc) (az_wn kc) (nI 0) zQ438 _ _ L ls (by omega) hP hD hSh hR hS (by first | exact hl | simpa [Nat.mul_add] using hl)
          · refine lv_aload_n hx hb d_La_law_773 rfl (lv_at hl 1 rfl) ?_
            refine lv_aload_n hx hb d_La_law_774 rfl (lv_at hl 0 rfl) ?_
            refine lv_iload hx hb d_La_law_775 (lv_at hl 4 rfl) ?_
            refine lv_iconst (v := nI 1) hx hb d_La_law_777 (by decide +kernel) ?_
            refine lv_iadd hx hb d_La_law_778 ?_
            refine aw_ti (nI_add (6 * t) 1) ?_
            refine va_sld hx hb hX hbl hbA hS (i := (nI ((6 * t) + 1))) (vp_in_nI (by omega) (by omega)) d_La_law_779 ?_
            refine aw_ti (y := nI j) (by rw [nI_clamp (by omega)]; exact hc0.symm) ?_
            refine lv_aload_n hx hb d_La_law_780 rfl (lv_at hl 0 rfl) ?_
            refine lv_iload hx hb d_La_law_781 (lv_at hl 4 rfl) ?_
            refine lv_iconst (v := nI 2) hx hb d_La_law_783 (by decide +kernel) ?_
            refine lv_iadd hx hb d_La_law_784 ?_
            refine aw_ti (nI_add (6 * t) 2) ?_
            refine va_sld hx hb hX hbl hbA hS (i := (nI ((6 * t) + 2))) (vp_in_nI (by omega) (by omega)) d_La_law_785 ?_
            refine aw_ti (y := nI k) (by rw [nI_clamp (by omega)]; exact hfr.symm) ?_
            refine lv_aload_n hx hb d_La_law_786 rfl (lv_at hl 0 rfl) ?_
            refine lv_iload hx hb d_La_law_787 (lv_at hl 4 rfl) ?_
            refine lv_iconst (v := nI 3) hx hb d_La_law_789 (by decide +kernel) ?_
            refine lv_iadd hx hb d_La_law_790 ?_
            refine aw_ti (nI_add (6 * t) 3) ?_
            refine va_sld hx hb hX hbl hbA hS (i := (nI ((6 * t) + 3))) (vp_in_nI (by omega) (by omega)) d_La_law_791 ?_
            refine aw_ti (y := nI mm) (by rw [nI_clamp (by omega)]; exact hm0.symm) ?_
            refine lv_aload_n hx hb d_La_law_792 rfl (lv_at hl 3 rfl) ?_
            refine va_calli (vx_runSW (As := [.ref (aw_r ad 0), .int (nI j), .int (nI k), .int (nI mm), .ref (aw_o ad)]) (rest := []) ⟨hx, hb, hml, hown, hG⟩ (k_La_takeXs1V l hst D g ad N0 zG zO zX zY zA zB zM zI zL zK zN zF zQ j k mm hj (by omega) (by omega) (by omega)) (aw_wW 5 hG gw_8_40 gw_8_38 gw_0_0 gw_8_39 rfl rfl hd_La_take ⟨Nat.le_of_ble_eq_true rfl, Nat.le_of_ble_eq_true rfl⟩) (ag_qS hP hD hSh hU hS) rfl rfl hl.1 rfl (lv_room (Nat.le_of_ble_eq_true rfl)) d_La_law_793 ⟨by omega, by omega⟩) hS (fun _ _ h => h) (fun _ h => h) ?_
            clear hP hD hSh hS
            intro x443 u8 t8 H locs ht _ ex443 hB _ _ hS
            obtain ⟨L, hP, hD, hSh⟩ := hB
            rw [ht] at hP
            clear ht
            subst ex443
            refine lv_istore hx hb d_La_law_796 hl (by decide) rfl (fun ls hl => ?_)
            have hl : lv_has ls 8 [(5, .int (nI 2)), (0, .ref b), (1, .ref (aw_r ad 0)), (2, .ref (aw_m ad 0)), (3, .ref (aw_o ad)), (4, .int (nI (6 * t)))] := hl
            refine lv_aload_n hx hb d_La_law_798 rfl (lv_at hl 3 rfl) ?_
            refine lv_aload_n hx hb d_La_law_799 rfl (lv_at hl 1 rfl) ?_
            refine lv_iload hx hb d_La_law_800 (lv_at hl 5 rfl) ?_
            refine lv_iconst (v := nI 1) hx hb d_La_law_802 (by decide +kernel) ?_
            refine lv_iadd hx hb d_La_law_803 ?_
            refine aw_ti (nI_add (6 * t) 1) ?_
            refine va_sld hx hb hX hbl hbA hS (i := (nI ((6 * t) + 1))) (vp_in_nI (by omega) (by omega)) d_La_law_804 ?_
            refine aw_ti (y := nI j) (by rw [nI_clamp (by omega)]; exact hc0.symm) ?_
            refine lv_aload_n hx hb d_La_law_805 rfl (lv_at hl 1 rfl) ?_
            refine lv_iload hx hb d_La_law_806 (lv_at hl 5 rfl) ?_
            refine lv_iconst (v := nI 2) hx hb d_La_law_808 (by decide +kernel) ?_
            refine lv_iadd hx hb d_La_law_809 ?_
            refine aw_ti (nI_add (6 * t) 2) ?_
            refine va_sld hx hb hX hbl hbA hS (i := (nI ((6 * t) + 2))) (vp_in_nI (by omega) (by omega)) d_La_law_810 ?_
            refine aw_ti (y := nI k) (by rw [nI_clamp (by omega)]; exact hfr.symm) ?_
            refine lv_aload_n hx hb d_La_law_811 rfl (lv_at hl 1 rfl) ?_
            refine lv_iload hx hb d_La_law_812 (lv_at hl 5 rfl) ?_
            refine lv_iconst (v := nI 3) hx hb d_La_law_814 (by decide +kernel) ?_
            refine lv_iadd hx hb d_La_law_815 ?_
            refine aw_ti (nI_add (6 * t) 3) ?_
            refine va_sld hx hb hX hbl hbA hS (i := (nI ((6 * t) + 3))) (vp_in_nI (by omega) (by omega)) d_La_law_816 ?_
            refine aw_ti (y := nI mm) (by rw [nI_clamp (by omega)]; exact hm0.symm) ?_
            obtain ⟨_, he444⟩ := zr_M0 hSh
            refine va_calli (va_runV (As := [.int (nI j), .int (nI k), .int (nI mm)]) (rest := []) ⟨hx, hb, hml, hown, hG⟩ (k_Mo_takeXsV l D g ad N0 zG zO zX zY zA zB zM zI zL zK zN zF zQ j k mm hj (by omega) (by omega)) (aw_wV 3 hG gw_12_49 gw_12_46 gw_0_10 gw_12_47 gw_12_48 rfl rfl hd_Mo_take ⟨Nat.le_of_ble_eq_true rfl, Nat.le_of_ble_eq_true rfl⟩) (ag_qV (va_recv hK hP rfl he444) hP hD hSh hU hS) rfl rfl hl.1 rfl (lv_room (Nat.le_of_ble_eq_true rfl)) d_La_law_817 ⟨by omega, by omega⟩) hS (fun _ _ h => h) (fun _ h => h) ?_
            clear hP hD hSh hS he444
            intro x445 u8 t8 H locs ht _ ex445 hB _ _ hS
            obtain ⟨L, hP, hD, hSh⟩ := hB
            rw [ht] at hP
            clear ht
            have ex445 := ex445.symm
            refine lv_istore hx hb d_La_law_820 hl (by decide) rfl (fun ls hl => ?_)
            have hl : lv_has ls 8 [(6, .int x445), (5, .int (nI 2)), (0, .ref b), (1, .ref (aw_r ad 0)), (2, .ref (aw_m ad 0)), (3, .ref (aw_o ad)), (4, .int (nI (6 * t)))] := hl
            refine lv_goto (tgt := 853) hx hb d_La_law_822 (by decide) ?_
            refine lv_iinc (k := 6) (v := nI (6 * t + 6)) hx hb d_La_law_853 hl rfl (aw_inc (6 * t) 6 6 (by decide +kernel)) (by decide) rfl (fun ls hl => ?_)
            have hl : lv_has ls 8 [(4, .int (nI (6 * t + 6))), (6, .int x445), (5, .int (nI 2)), (0, .ref b), (1, .ref (aw_r ad 0)), (2, .ref (aw_m ad 0)), (3, .ref (aw_o ad))] := hl
            refine lv_goto (tgt := 23) hx hb d_La_law_856 (by decide) ?_
            have hl := lv_sub hl (l' := [(0, .ref b), (1, .ref (aw_r ad 0)), (2, .ref (aw_m ad 0)), (3, .ref (aw_o ad)), (4, .int (nI (6 * t + 6)))]) [3, 4, 5, 6, 0] rfl
            refine W.widen (k := 85 + (t + 1)) (n := 1246 + 6 * (t + 1)) (by omega) (by omega) ?_
            exact ih (t + 1) zG zO zX zY zA zB zM zI zL zK zN (nI 2) zQ _ _ L ls (by omega) hP hD hSh hR hS (by first | exact hl | simpa [Nat.mul_add] using hl)
    · refine aw_ti (y := nI 12) (by rw [hs3]) ?_
      refine lv_tableIn (tgt := 825) (off := 785) hx hb d_La_law_40 (by decide +kernel) (by decide +kernel) (by decide +kernel) (by decide) ?_
      obtain ⟨c0, hc0⟩ : ∃ z : Int32, z = xs (6 * t + 1) := ⟨_, rfl⟩
      rcases aw_rng 4 (by decide) c0 with hc | ⟨j, hj, rfl⟩
      · refine lv_aload_n hx hb d_La_law_825 rfl (lv_at hl 1 rfl) ?_
        refine lv_aload_n hx hb d_La_law_826 rfl (lv_at hl 0 rfl) ?_
        refine lv_iload hx hb d_La_law_827 (lv_at hl 4 rfl) ?_
        refine lv_iconst (v := nI 1) hx hb d_La_law_829 (by decide +kernel) ?_
        refine lv_iadd hx hb d_La_law_830 ?_
        refine aw_ti (nI_add (6 * t) 1) ?_
        refine va_sld hx hb hX hbl hbA hS (i := (nI ((6 * t) + 1))) (vp_in_nI (by omega) (by omega)) d_La_law_831 ?_
        refine aw_ti (y := c0) (by rw [nI_clamp (by omega)]; exact hc0.symm) ?_
        refine lv_aload_n hx hb d_La_law_832 rfl (lv_at hl 3 rfl) ?_
        refine va_calli (vx_runSW (As := [.ref (aw_r ad 0), .int c0, .ref (aw_o ad)]) (rest := []) ⟨hx, hb, hml, hown, hG⟩ (k_La_tagXcV l hst D g ad N0 zG zO zX zY zA zB zM zI zL zK zN zF zQ c0 hc) (aw_wW 3 hG gw_9_2 gw_9_0 gw_0_0 gw_9_1 rfl rfl hd_La_tag ⟨Nat.le_of_ble_eq_true rfl, Nat.le_of_ble_eq_true rfl⟩) (ag_qS hP hD hSh hU hS) rfl rfl hl.1 rfl (lv_room (Nat.le_of_ble_eq_true rfl)) d_La_law_833 ⟨by omega, by omega⟩) hS (fun _ _ h => h) (fun _ h => h) ?_
        clear hP hD hSh hS
        intro x446 u8 t8 H locs ht _ ex446 hB _ _ hS
        obtain ⟨L, hP, hD, hSh⟩ := hB
        rw [ht] at hP
        clear ht
        subst ex446
        refine lv_istore hx hb d_La_law_836 hl (by decide) rfl (fun ls hl => ?_)
        have hl : lv_has ls 8 [(5, .int (nI 1)), (0, .ref b), (1, .ref (aw_r ad 0)), (2, .ref (aw_m ad 0)), (3, .ref (aw_o ad)), (4, .int (nI (6 * t)))] := hl
        refine lv_aload_n hx hb d_La_law_838 rfl (lv_at hl 3 rfl) ?_
        refine lv_aload_n hx hb d_La_law_839 rfl (lv_at hl 1 rfl) ?_
        refine lv_iload hx hb d_La_law_840 (lv_at hl 5 rfl) ?_
        refine lv_iconst (v := nI 1) hx hb d_La_law_842 (by decide +kernel) ?_
        refine lv_iadd hx hb d_La_law_843 ?_
        refine aw_ti (nI_add (6 * t) 1) ?_
        refine va_sld hx hb hX hbl hbA hS (i := (nI ((6 * t) + 1))) (vp_in_nI (by omega) (by omega)) d_La_law_844 ?_
        refine aw_ti (y := c0) (by rw [nI_clamp (by omega)]; exact hc0.symm) ?_
        obtain ⟨_, he447⟩ := zr_M0 hSh
        refine va_calll (va_runV (As := [.int c0]) (rest := []) ⟨hx, hb, hml, hown, hG⟩ (k_Mo_tagXcV l D g ad N0 zG zO zX zY zA zB zM zI zL zK zN zF zQ c0 hc) (aw_wV 1 hG gw_12_56 gw_12_53 gw_0_10 gw_12_54 gw_12_55 rfl rfl hd_Mo_tag ⟨Nat.le_of_ble_eq_true rfl, Nat.le_of_ble_eq_true rfl⟩) (ag_qV (va_recv hK hP rfl he447) hP hD hSh hU hS) rfl rfl hl.1 rfl (lv_room (Nat.le_of_ble_eq_true rfl)) d_La_law_845 ⟨by omega, by omega⟩) hS (fun _ _ h => h) (fun _ h => h) ?_
        clear hP hD hSh hS he447
        intro y448 u8 t8 H locs ht _ ey448 hB _ _ hS
        obtain ⟨L, hP, hD, hSh⟩ := hB
        rw [ht] at hP
        clear ht
        have ey448 := ey448.symm
        refine lv_lstore hx hb d_La_law_848 hl (by decide) rfl (fun ls hl => ?_)
        have hl : lv_has ls 8 [(6, .long y448), (5, .int (nI 1)), (0, .ref b), (1, .ref (aw_r ad 0)), (2, .ref (aw_m ad 0)), (3, .ref (aw_o ad)), (4, .int (nI (6 * t)))] := hl
        refine lv_goto (tgt := 853) hx hb d_La_law_850 (by decide) ?_
        refine lv_iinc (k := 6) (v := nI (6 * t + 6)) hx hb d_La_law_853 hl rfl (aw_inc (6 * t) 6 6 (by decide +kernel)) (by decide) rfl (fun ls hl => ?_)
        have hl : lv_has ls 8 [(4, .int (nI (6 * t + 6))), (6, .long y448), (5, .int (nI 1)), (0, .ref b), (1, .ref (aw_r ad 0)), (2, .ref (aw_m ad 0)), (3, .ref (aw_o ad))] := hl
        refine lv_goto (tgt := 23) hx hb d_La_law_856 (by decide) ?_
        have hl := lv_sub hl (l' := [(0, .ref b), (1, .ref (aw_r ad 0)), (2, .ref (aw_m ad 0)), (3, .ref (aw_o ad)), (4, .int (nI (6 * t + 6)))]) [3, 4, 5, 6, 0] rfl
        refine W.widen (k := 85 + (t + 1)) (n := 1246 + 6 * (t + 1)) (by omega) (by omega) ?_
        exact ih (t + 1) zG zO zX zY zA zB zM zI zL zK zN (nI 1) zQ _ _ L ls (by omega) hP hD hSh hR hS (by first | exact hl | simpa [Nat.mul_add] using hl)
      · have hgj := hSh.2.2.2.2.1 j hj
        have hq1 : (zM j).1 = (zG j).1 := by rw [hR.1 j hj]
        have hq2 : (zM j).2 = (zG j).2 := by rw [hR.1 j hj]
        by_cases hs : (zG j).1 = 3 ∧ (zG j).2 = 5
        · obtain ⟨kc, hkc, hci, hco⟩ := hR.2.1 j hj (by omega)
          refine lv_aload_n hx hb d_La_law_825 rfl (lv_at hl 1 rfl) ?_
          refine lv_aload_n hx hb d_La_law_826 rfl (lv_at hl 0 rfl) ?_
          refine lv_iload hx hb d_La_law_827 (lv_at hl 4 rfl) ?_
          refine lv_iconst (v := nI 1) hx hb d_La_law_829 (by decide +kernel) ?_
          refine lv_iadd hx hb d_La_law_830 ?_
          refine aw_ti (nI_add (6 * t) 1) ?_
          refine va_sld hx hb hX hbl hbA hS (i := (nI ((6 * t) + 1))) (vp_in_nI (by omega) (by omega)) d_La_law_831 ?_
          refine aw_ti (y := nI j) (by rw [nI_clamp (by omega)]; exact hc0.symm) ?_
          refine lv_aload_n hx hb d_La_law_832 rfl (lv_at hl 3 rfl) ?_
          refine va_calli (vx_runSW (As := [.ref (aw_r ad 0), .int (nI j), .ref (aw_o ad)]) (rest := []) ⟨hx, hb, hml, hown, hG⟩ (k_La_tag1V l hst D g ad N0 zG zO zX zY zA zB zM zI zL zK zN zF zQ j hj (by omega)) (aw_wW 3 hG gw_9_2 gw_9_0 gw_0_0 gw_9_1 rfl rfl hd_La_tag ⟨Nat.le_of_ble_eq_true rfl, Nat.le_of_ble_eq_true rfl⟩) (ag_qS hP hD hSh hU hS) rfl rfl hl.1 rfl (lv_room (Nat.le_of_ble_eq_true rfl)) d_La_law_833 ⟨by omega, by omega⟩) hS (fun _ _ h => h) (fun _ h => h) ?_
          clear hP hD hSh hS
          intro x449 u8 t8 H locs ht _ ex449 hB _ _ hS
          obtain ⟨L, hP, hD, hSh⟩ := hB
          rw [ht] at hP
          clear ht
          subst ex449
          obtain ⟨zX450, ezX450⟩ : ∃ z : Nat → Nat → Int64, v_La_tag1V_zX zO zX zY zA j = z := ⟨_, rfl⟩
          rw [ezX450] at hSh
          obtain ⟨zY451, ezY451⟩ : ∃ z : Nat → Nat → Int32, v_La_tag1V_zY zO zX zY zA j = z := ⟨_, rfl⟩
          rw [ezY451] at hSh
          obtain ⟨zQ452, ezQ452⟩ : ∃ z : Int64, v_La_tag1V_zQ zO zX zY zA j = z := ⟨_, rfl⟩
          rw [ezQ452] at hSh
          refine lv_istore hx hb d_La_law_836 hl (by decide) rfl (fun ls hl => ?_)
          have hl : lv_has ls 8 [(5, .int (nI 0)), (0, .ref b), (1, .ref (aw_r ad 0)), (2, .ref (aw_m ad 0)), (3, .ref (aw_o ad)), (4, .int (nI (6 * t)))] := hl
          refine lv_aload_n hx hb d_La_law_838 rfl (lv_at hl 3 rfl) ?_
          refine lv_aload_n hx hb d_La_law_839 rfl (lv_at hl 1 rfl) ?_
          refine lv_iload hx hb d_La_law_840 (lv_at hl 5 rfl) ?_
          refine lv_iconst (v := nI 1) hx hb d_La_law_842 (by decide +kernel) ?_
          refine lv_iadd hx hb d_La_law_843 ?_
          refine aw_ti (nI_add (6 * t) 1) ?_
          refine va_sld hx hb hX hbl hbA hS (i := (nI ((6 * t) + 1))) (vp_in_nI (by omega) (by omega)) d_La_law_844 ?_
          refine aw_ti (y := nI j) (by rw [nI_clamp (by omega)]; exact hc0.symm) ?_
          obtain ⟨_, he453⟩ := zr_M0 hSh
          refine va_calll (va_runV (As := [.int (nI j)]) (rest := []) ⟨hx, hb, hml, hown, hG⟩ (k_Mo_tag1V l D g ad N0 zG zO zX450 zY451 zA zB zM zI zL zK zN zF zQ452 j kc hj (by omega) hkc hci) (aw_wV 1 hG gw_12_56 gw_12_53 gw_0_10 gw_12_54 gw_12_55 rfl rfl hd_Mo_tag ⟨Nat.le_of_ble_eq_true rfl, Nat.le_of_ble_eq_true rfl⟩) (ag_qV (va_recv hK hP rfl he453) hP hD hSh hU hS) rfl rfl hl.1 rfl (lv_room (Nat.le_of_ble_eq_true rfl)) d_La_law_845 ⟨by omega, by omega⟩) hS (fun _ _ h => h) (fun _ h => h) ?_
          clear hP hD hSh hS he453
          intro y454 u8 t8 H locs ht _ ey454 hB _ _ hS
          obtain ⟨L, hP, hD, hSh⟩ := hB
          rw [ht] at hP
          clear ht
          obtain ⟨zI455, ezI455⟩ : ∃ z : Nat → Nat → Int32, v_Mo_tag1V_zI zI zL j kc = z := ⟨_, rfl⟩
          rw [ezI455] at hSh
          obtain ⟨zL456, ezL456⟩ : ∃ z : Nat → Nat → Int64, v_Mo_tag1V_zL zI zL j kc = z := ⟨_, rfl⟩
          rw [ezL456] at hSh
          have ey454 := ey454.symm
          refine lv_lstore hx hb d_La_law_848 hl (by decide) rfl (fun ls hl => ?_)
          have hl : lv_has ls 8 [(6, .long y454), (5, .int (nI 0)), (0, .ref b), (1, .ref (aw_r ad 0)), (2, .ref (aw_m ad 0)), (3, .ref (aw_o ad)), (4, .int (nI (6 * t)))] := hl
          refine lv_goto (tgt := 853) hx hb d_La_law_850 (by decide) ?_
          refine lv_iinc (k := 6) (v := nI (6 * t + 6)) hx hb d_La_law_853 hl rfl (aw_inc (6 * t) 6 6 (by decide +kernel)) (by decide) rfl (fun ls hl => ?_)
          have hl : lv_has ls 8 [(4, .int (nI (6 * t + 6))), (6, .long y454), (5, .int (nI 0)), (0, .ref b), (1, .ref (aw_r ad 0)), (2, .ref (aw_m ad 0)), (3, .ref (aw_o ad))] := hl
          refine lv_goto (tgt := 23) hx hb d_La_law_856 (by decide) ?_
          have hl := lv_sub hl (l' := [(0, .ref b), (1, .ref (aw_r ad 0)), (2, .ref (aw_m ad 0)), (3, .ref (aw_o ad)), (4, .int (nI (6 * t + 6)))]) [3, 4, 5, 6, 0] rfl
          refine W.widen (k := 85 + (t + 1)) (n := 1246 + 6 * (t + 1)) (by omega) (by omega) ?_
          have hR : az_R zG zO zX450 zY451 zA zB zM zI455 zL456 := by
            subst ey454 ezL456 ezI455 ezQ452 ezY451 ezX450
            exact r_tag1 hR hj hs hkc hci hco
          exact ih (t + 1) zG zO zX450 zY451 zA zB zM zI455 zL456 (nI kc) (az_wn kc) (nI 0) zQ452 _ _ L ls (by omega) hP hD hSh hR hS (by first | exact hl | simpa [Nat.mul_add] using hl)
        · refine lv_aload_n hx hb d_La_law_825 rfl (lv_at hl 1 rfl) ?_
          refine lv_aload_n hx hb d_La_law_826 rfl (lv_at hl 0 rfl) ?_
          refine lv_iload hx hb d_La_law_827 (lv_at hl 4 rfl) ?_
          refine lv_iconst (v := nI 1) hx hb d_La_law_829 (by decide +kernel) ?_
          refine lv_iadd hx hb d_La_law_830 ?_
          refine aw_ti (nI_add (6 * t) 1) ?_
          refine va_sld hx hb hX hbl hbA hS (i := (nI ((6 * t) + 1))) (vp_in_nI (by omega) (by omega)) d_La_law_831 ?_
          refine aw_ti (y := nI j) (by rw [nI_clamp (by omega)]; exact hc0.symm) ?_
          refine lv_aload_n hx hb d_La_law_832 rfl (lv_at hl 3 rfl) ?_
          refine va_calli (vx_runSW (As := [.ref (aw_r ad 0), .int (nI j), .ref (aw_o ad)]) (rest := []) ⟨hx, hb, hml, hown, hG⟩ (k_La_tagXsV l hst D g ad N0 zG zO zX zY zA zB zM zI zL zK zN zF zQ j hj (by omega)) (aw_wW 3 hG gw_9_2 gw_9_0 gw_0_0 gw_9_1 rfl rfl hd_La_tag ⟨Nat.le_of_ble_eq_true rfl, Nat.le_of_ble_eq_true rfl⟩) (ag_qS hP hD hSh hU hS) rfl rfl hl.1 rfl (lv_room (Nat.le_of_ble_eq_true rfl)) d_La_law_833 ⟨by omega, by omega⟩) hS (fun _ _ h => h) (fun _ h => h) ?_
          clear hP hD hSh hS
          intro x457 u8 t8 H locs ht _ ex457 hB _ _ hS
          obtain ⟨L, hP, hD, hSh⟩ := hB
          rw [ht] at hP
          clear ht
          subst ex457
          refine lv_istore hx hb d_La_law_836 hl (by decide) rfl (fun ls hl => ?_)
          have hl : lv_has ls 8 [(5, .int (nI 2)), (0, .ref b), (1, .ref (aw_r ad 0)), (2, .ref (aw_m ad 0)), (3, .ref (aw_o ad)), (4, .int (nI (6 * t)))] := hl
          refine lv_aload_n hx hb d_La_law_838 rfl (lv_at hl 3 rfl) ?_
          refine lv_aload_n hx hb d_La_law_839 rfl (lv_at hl 1 rfl) ?_
          refine lv_iload hx hb d_La_law_840 (lv_at hl 5 rfl) ?_
          refine lv_iconst (v := nI 1) hx hb d_La_law_842 (by decide +kernel) ?_
          refine lv_iadd hx hb d_La_law_843 ?_
          refine aw_ti (nI_add (6 * t) 1) ?_
          refine va_sld hx hb hX hbl hbA hS (i := (nI ((6 * t) + 1))) (vp_in_nI (by omega) (by omega)) d_La_law_844 ?_
          refine aw_ti (y := nI j) (by rw [nI_clamp (by omega)]; exact hc0.symm) ?_
          obtain ⟨_, he458⟩ := zr_M0 hSh
          refine va_calll (va_runV (As := [.int (nI j)]) (rest := []) ⟨hx, hb, hml, hown, hG⟩ (k_Mo_tagXsV l D g ad N0 zG zO zX zY zA zB zM zI zL zK zN zF zQ j hj (by omega)) (aw_wV 1 hG gw_12_56 gw_12_53 gw_0_10 gw_12_54 gw_12_55 rfl rfl hd_Mo_tag ⟨Nat.le_of_ble_eq_true rfl, Nat.le_of_ble_eq_true rfl⟩) (ag_qV (va_recv hK hP rfl he458) hP hD hSh hU hS) rfl rfl hl.1 rfl (lv_room (Nat.le_of_ble_eq_true rfl)) d_La_law_845 ⟨by omega, by omega⟩) hS (fun _ _ h => h) (fun _ h => h) ?_
          clear hP hD hSh hS he458
          intro y459 u8 t8 H locs ht _ ey459 hB _ _ hS
          obtain ⟨L, hP, hD, hSh⟩ := hB
          rw [ht] at hP
          clear ht
          have ey459 := ey459.symm
          refine lv_lstore hx hb d_La_law_848 hl (by decide) rfl (fun ls hl => ?_)
          have hl : lv_has ls 8 [(6, .long y459), (5, .int (nI 2)), (0, .ref b), (1, .ref (aw_r ad 0)), (2, .ref (aw_m ad 0)), (3, .ref (aw_o ad)), (4, .int (nI (6 * t)))] := hl
          refine lv_goto (tgt := 853) hx hb d_La_law_850 (by decide) ?_
          refine lv_iinc (k := 6) (v := nI (6 * t + 6)) hx hb d_La_law_853 hl rfl (aw_inc (6 * t) 6 6 (by decide +kernel)) (by decide) rfl (fun ls hl => ?_)
          have hl : lv_has ls 8 [(4, .int (nI (6 * t + 6))), (6, .long y459), (5, .int (nI 2)), (0, .ref b), (1, .ref (aw_r ad 0)), (2, .ref (aw_m ad 0)), (3, .ref (aw_o ad))] := hl
          refine lv_goto (tgt := 23) hx hb d_La_law_856 (by decide) ?_
          have hl := lv_sub hl (l' := [(0, .ref b), (1, .ref (aw_r ad 0)), (2, .ref (aw_m ad 0)), (3, .ref (aw_o ad)), (4, .int (nI (6 * t + 6)))]) [3, 4, 5, 6, 0] rfl
          refine W.widen (k := 85 + (t + 1)) (n := 1246 + 6 * (t + 1)) (by omega) (by omega) ?_
          exact ih (t + 1) zG zO zX zY zA zB zM zI zL zK zN (nI 2) zQ _ _ L ls (by omega) hP hD hSh hR hS (by first | exact hl | simpa [Nat.mul_add] using hl)
    · refine aw_ti (y := nI 13) (by rw [hs3]) ?_
      refine lv_tableOut (tgt := 853) hx hb d_La_law_40 (by decide +kernel) (by decide) ?_
      refine lv_iinc (k := 4) (v := nI (6 * t + 6)) hx hb d_La_law_853 hl rfl (aw_inc (6 * t) 6 6 (by decide +kernel)) (by decide) rfl (fun ls hl => ?_)
      have hl : lv_has ls 8 [(4, .int (nI (6 * t + 6))), (0, .ref b), (1, .ref (aw_r ad 0)), (2, .ref (aw_m ad 0)), (3, .ref (aw_o ad))] := hl
      refine lv_goto (tgt := 23) hx hb d_La_law_856 (by decide) ?_
      have hl := lv_sub hl (l' := [(0, .ref b), (1, .ref (aw_r ad 0)), (2, .ref (aw_m ad 0)), (3, .ref (aw_o ad)), (4, .int (nI (6 * t + 6)))]) [1, 2, 3, 4, 0] rfl
      refine W.widen (k := 85 + (t + 1)) (n := 1246 + 6 * (t + 1)) (by omega) (by omega) ?_
      exact ih (t + 1) zG zO zX zY zA zB zM zI zL zK zN zF zQ _ _ L ls (by omega) hP hD hSh hR hS (by first | exact hl | simpa [Nat.mul_add] using hl)
    · refine aw_ti (y := nI 14) (by rw [hs3]) ?_
      refine lv_tableOut (tgt := 853) hx hb d_La_law_40 (by decide +kernel) (by decide) ?_
      refine lv_iinc (k := 4) (v := nI (6 * t + 6)) hx hb d_La_law_853 hl rfl (aw_inc (6 * t) 6 6 (by decide +kernel)) (by decide) rfl (fun ls hl => ?_)
      have hl : lv_has ls 8 [(4, .int (nI (6 * t + 6))), (0, .ref b), (1, .ref (aw_r ad 0)), (2, .ref (aw_m ad 0)), (3, .ref (aw_o ad))] := hl
      refine lv_goto (tgt := 23) hx hb d_La_law_856 (by decide) ?_
      have hl := lv_sub hl (l' := [(0, .ref b), (1, .ref (aw_r ad 0)), (2, .ref (aw_m ad 0)), (3, .ref (aw_o ad)), (4, .int (nI (6 * t + 6)))]) [1, 2, 3, 4, 0] rfl
      refine W.widen (k := 85 + (t + 1)) (n := 1246 + 6 * (t + 1)) (by omega) (by omega) ?_
      exact ih (t + 1) zG zO zX zY zA zB zM zI zL zK zN zF zQ _ _ L ls (by omega) hP hD hSh hR hS (by first | exact hl | simpa [Nat.mul_add] using hl)
    · refine aw_ti (y := nI 15) (by rw [hs3]) ?_
      refine lv_tableOut (tgt := 853) hx hb d_La_law_40 (by decide +kernel) (by decide) ?_
      refine lv_iinc (k := 4) (v := nI (6 * t + 6)) hx hb d_La_law_853 hl rfl (aw_inc (6 * t) 6 6 (by decide +kernel)) (by decide) rfl (fun ls hl => ?_)
      have hl : lv_has ls 8 [(4, .int (nI (6 * t + 6))), (0, .ref b), (1, .ref (aw_r ad 0)), (2, .ref (aw_m ad 0)), (3, .ref (aw_o ad))] := hl
      refine lv_goto (tgt := 23) hx hb d_La_law_856 (by decide) ?_
      have hl := lv_sub hl (l' := [(0, .ref b), (1, .ref (aw_r ad 0)), (2, .ref (aw_m ad 0)), (3, .ref (aw_o ad)), (4, .int (nI (6 * t + 6)))]) [1, 2, 3, 4, 0] rfl
      refine W.widen (k := 85 + (t + 1)) (n := 1246 + 6 * (t + 1)) (by omega) (by omega) ?_
      exact ih (t + 1) zG zO zX zY zA zB zM zI zL zK zN zF zQ _ _ L ls (by omega) hP hD hSh hR hS (by first | exact hl | simpa [Nat.mul_add] using hl)
