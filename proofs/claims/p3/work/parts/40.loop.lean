set_option maxHeartbeats 40000000 in
set_option maxRecDepth 100000 in
theorem law_loop {p : Program} {e : Env} {s : State} {m : MethodId} {below : List Frame} {meth : Method} {c : Code} (l : Launch) (hst : l.stackTraces = false) {b Ln : Nat} {xs : Nat → Int32} (hLn : Ln ≤ 3072) (C0 : lw_At p s m meth c b Ln xs) {D : va_G} {g : Nat → ClassId} {ad : Nat → Nat} {N0 : Nat} (hN0e : N0 = s.heap.size) (hU : aw_U D g N0 s) :
    ∀ (d t : Nat) (zG : Nat → Nat × Nat) (zO : Nat → Nat) (zX : Nat → Nat → Int64) (zY : Nat → Nat → Int32) (zA : Nat → Nat → Nat → Int32) (zB : Nat → Int32) (zM : Nat → Nat × Nat) (zI : Nat → Nat → Int32) (zL : Nat → Nat → Int64) (zK : Int32) (zN : Nat) (zF : Int32) (zQ : Int64) (H : Heap) (locs : List Loc) (L : va_W) (ls : Array Slot), t + d = Ln / 6 → va_P D aw_C L H → va_D (aw_Z N0) L → az_Sh g ad zG zO zX zY zA zB zM zI zL zK zN zF zQ L → az_R zG zO zX zY zA zB zM zI zL → va_S (aw_Z N0) s.heap H locs → lv_has ls 8 [(0, .ref b), (1, .ref (aw_r ad 0)), (2, .ref (aw_m ad 0)), (3, .ref (aw_o ad)), (4, .int (nI (6 * t)))] → W p l e room_1 s m #[Value.ref b] below meth c H locs (85 + t) (1246 + 6 * t) (lw_Z below #[Value.ref b] s) (F0 m 23 ls []) := by
  obtain ⟨hx, hb, hr, hml, hown, hts, hX, hbl, hlocks, hgv⟩ := C0
  have hown : s.vm.findClass "RuleCiphersLaw" = some m.cls := hown
  have hG : ∀ w ∈ aw_G, w.before #[Value.ref b] s = true := fun w h => hts w (aw_GL w h)
  have hbA : ¬ aw_Z N0 b := fun h => by have h9 : N0 ≤ b := h; omega
  have hR1 : room_1.cells = 613841 := rfl
  have hR2 : room_1.slots = 7254581 := rfl
  have hE := hU.1
  have hK := hE.1
  have hN := hE.2.1
  intro d
  induction d with
  | zero =>
    intro t zG zO zX zY zA zB zM zI zL zK zN zF zQ H locs L ls ht0 hP hD hSh hR hS hl
    by_cases h6 : 6 ≤ Ln
    · refine lv_iload hx hb d_La_law_23 (lv_at hl 4 rfl) ?_
      refine lv_aload_n hx hb d_La_law_25 rfl (lv_at hl 0 rfl) ?_
      refine va_slen hx hb hX hbl hbA hS d_La_law_26 ?_
      refine aw_ti (y := nI Ln) rfl ?_
      refine lv_bipush (v := nI 6) hx hb d_La_law_27 (by decide +kernel) ?_
      refine lv_isub hx hb d_La_law_29 ?_
      refine aw_ti (pk_sub (a := Ln) (b := 6) (by omega)) ?_
      refine lv_icmp_gt (tgt := 843) hx hb d_La_law_30 (by decide) (fun _ => ?_) (fun h => absurd (show nI (Ln - 6) < nI (6 * t) from (nI_ltI (by omega) (by omega)).mpr (by omega)) h)
      refine lv_iconst (v := 1) hx hb d_La_law_843 (by decide +kernel) ?_
      refine va_forget (fun q hq => by have h9 := hS.2.2 q hq; rw [← hN0e]; exact h9) ?_
      refine W.widen (k := 613841) (n := 7254581) (by omega) (by omega) ?_
      exact lw_ret hx hb hr hlocks d_La_law_844
    · have ht1 : t = 0 := by omega
      subst ht1
      refine lv_iload hx hb d_La_law_23 (lv_at hl 4 rfl) ?_
      refine lv_aload_n hx hb d_La_law_25 rfl (lv_at hl 0 rfl) ?_
      refine va_slen hx hb hX hbl hbA hS d_La_law_26 ?_
      refine aw_ti (y := nI Ln) rfl ?_
      refine lv_bipush (v := nI 6) hx hb d_La_law_27 (by decide +kernel) ?_
      refine lv_isub hx hb d_La_law_29 ?_
      refine lv_icmp_gt (tgt := 843) hx hb d_La_law_30 (by decide) (fun _ => ?_) (fun h => absurd (show nI Ln - nI 6 < nI (6 * 0) from pk_sneg (by decide) (by omega)) h)
      refine lv_iconst (v := 1) hx hb d_La_law_843 (by decide +kernel) ?_
      refine va_forget (fun q hq => by have h9 := hS.2.2 q hq; rw [← hN0e]; exact h9) ?_
      refine W.widen (k := 613841) (n := 7254581) (by omega) (by omega) ?_
      exact lw_ret hx hb hr hlocks d_La_law_844
  | succ d ih =>
    intro t zG zO zX zY zA zB zM zI zL zK zN zF zQ H locs L ls ht0 hP hD hSh hR hS hl
    refine lv_iload hx hb d_La_law_23 (lv_at hl 4 rfl) ?_
    refine lv_aload_n hx hb d_La_law_25 rfl (lv_at hl 0 rfl) ?_
    refine va_slen hx hb hX hbl hbA hS d_La_law_26 ?_
    refine aw_ti (y := nI Ln) rfl ?_
    refine lv_bipush (v := nI 6) hx hb d_La_law_27 (by decide +kernel) ?_
    refine lv_isub hx hb d_La_law_29 ?_
    refine aw_ti (pk_sub (a := Ln) (b := 6) (by omega)) ?_
    refine lv_icmp_gt (tgt := 843) hx hb d_La_law_30 (by decide) (fun h => absurd h (show ¬ nI (Ln - 6) < nI (6 * t) from fun h9 => absurd ((nI_ltI (by omega) (by omega)).mp h9) (by omega))) (fun _ => ?_)
    refine lv_aload_n hx hb d_La_law_33 rfl (lv_at hl 0 rfl) ?_
    refine lv_iload hx hb d_La_law_34 (lv_at hl 4 rfl) ?_
    refine va_sld hx hb hX hbl hbA hS (i := (nI (6 * t))) (vp_in_nI (by omega) (by omega)) d_La_law_36 ?_
    refine lv_topi (fun x1 _ => ?_)
    refine lv_bipush (v := nI 15) hx hb d_La_law_37 (by decide +kernel) ?_
    refine lv_iand hx hb d_La_law_39 ?_
    obtain ⟨k2, hk2, ek2⟩ := pk_andE x1 (m := nI 15) 4 (by decide +kernel)
    refine aw_ti ek2 ?_
    rcases (by omega : k2 = 0 ∨ k2 = 1 ∨ k2 = 2 ∨ k2 = 3 ∨ k2 = 4 ∨ k2 = 5 ∨ k2 = 6 ∨ k2 = 7 ∨ k2 = 8 ∨ k2 = 9 ∨ k2 = 10 ∨ k2 = 11 ∨ k2 = 12 ∨ k2 = 13 ∨ k2 = 14 ∨ k2 = 15) with hs3 | hs3 | hs3 | hs3 | hs3 | hs3 | hs3 | hs3 | hs3 | hs3 | hs3 | hs3 | hs3 | hs3 | hs3 | hs3
    · refine aw_ti (y := nI 0) (by rw [hs3]) ?_
      refine lv_tableIn (tgt := 108) (off := 68) hx hb d_La_law_40 (by decide +kernel) (by decide +kernel) (by decide +kernel) (by decide) ?_
      obtain ⟨c0, hc0⟩ : ∃ z : Int32, z = xs (6 * t + 1) := ⟨_, rfl⟩
      obtain ⟨k0, hk0⟩ : ∃ z : Int32, z = xs (6 * t + 2) := ⟨_, rfl⟩
      rcases aw_rng 4 (by decide) c0 with hc | ⟨j, hj, rfl⟩
      · refine lv_aload_n hx hb d_La_law_108 rfl (lv_at hl 1 rfl) ?_
        refine lv_aload_n hx hb d_La_law_109 rfl (lv_at hl 0 rfl) ?_
        refine lv_iload hx hb d_La_law_110 (lv_at hl 4 rfl) ?_
        refine lv_iconst (v := nI 1) hx hb d_La_law_112 (by decide +kernel) ?_
        refine lv_iadd hx hb d_La_law_113 ?_
        refine aw_ti (nI_add (6 * t) 1) ?_
        refine va_sld hx hb hX hbl hbA hS (i := (nI ((6 * t) + 1))) (vp_in_nI (by omega) (by omega)) d_La_law_114 ?_
        refine aw_ti (y := c0) (by rw [nI_clamp (by omega)]; exact hc0.symm) ?_
        refine lv_aload_n hx hb d_La_law_115 rfl (lv_at hl 0 rfl) ?_
        refine lv_iload hx hb d_La_law_116 (lv_at hl 4 rfl) ?_
        refine lv_iconst (v := nI 2) hx hb d_La_law_118 (by decide +kernel) ?_
        refine lv_iadd hx hb d_La_law_119 ?_
        refine aw_ti (nI_add (6 * t) 2) ?_
        refine va_sld hx hb hX hbl hbA hS (i := (nI ((6 * t) + 2))) (vp_in_nI (by omega) (by omega)) d_La_law_120 ?_
        refine aw_ti (y := k0) (by rw [nI_clamp (by omega)]; exact hk0.symm) ?_
        refine va_calli (vx_runSW (As := [.ref (aw_r ad 0), .int c0, .int k0]) (rest := []) ⟨hx, hb, hml, hown, hG⟩ (k_La_chooseXcV l hst D g ad N0 zG zO zX zY zA zB zM zI zL zK zN zF zQ c0 k0 hc) (aw_wW 3 hG gw_2_37 gw_2_35 gw_0_0 gw_2_36 rfl rfl hd_La_choose ⟨Nat.le_of_ble_eq_true rfl, Nat.le_of_ble_eq_true rfl⟩) (ag_qS hP hD hSh hU hS) rfl rfl hl.1 rfl (lv_room (Nat.le_of_ble_eq_true rfl)) d_La_law_121 ⟨by omega, by omega⟩) hS (fun _ _ h => h) (fun _ h => h) ?_
        clear hP hD hSh hS
        intro x4 u8 t8 H locs ht _ ex4 hB _ _ hS
        obtain ⟨L, hP, hD, hSh⟩ := hB
        rw [ht] at hP
        clear ht
        subst ex4
        refine lv_istore hx hb d_La_law_124 hl (by decide) rfl (fun ls hl => ?_)
        have hl : lv_has ls 8 [(5, .int (nI 1)), (0, .ref b), (1, .ref (aw_r ad 0)), (2, .ref (aw_m ad 0)), (3, .ref (aw_o ad)), (4, .int (nI (6 * t)))] := hl
        refine lv_aload_n hx hb d_La_law_126 rfl (lv_at hl 3 rfl) ?_
        refine lv_aload_n hx hb d_La_law_127 rfl (lv_at hl 1 rfl) ?_
        refine lv_iload hx hb d_La_law_128 (lv_at hl 5 rfl) ?_
        refine lv_iconst (v := nI 1) hx hb d_La_law_130 (by decide +kernel) ?_
        refine lv_iadd hx hb d_La_law_131 ?_
        refine aw_ti (nI_add (6 * t) 1) ?_
        refine va_sld hx hb hX hbl hbA hS (i := (nI ((6 * t) + 1))) (vp_in_nI (by omega) (by omega)) d_La_law_132 ?_
        refine aw_ti (y := c0) (by rw [nI_clamp (by omega)]; exact hc0.symm) ?_
        refine lv_aload_n hx hb d_La_law_133 rfl (lv_at hl 1 rfl) ?_
        refine lv_iload hx hb d_La_law_134 (lv_at hl 5 rfl) ?_
        refine lv_iconst (v := nI 2) hx hb d_La_law_136 (by decide +kernel) ?_
        refine lv_iadd hx hb d_La_law_137 ?_
        refine aw_ti (nI_add (6 * t) 2) ?_
        refine va_sld hx hb hX hbl hbA hS (i := (nI ((6 * t) + 2))) (vp_in_nI (by omega) (by omega)) d_La_law_138 ?_
        refine aw_ti (y := k0) (by rw [nI_clamp (by omega)]; exact hk0.symm) ?_
        obtain ⟨_, he5⟩ := zr_M0 hSh
        refine va_callv (va_runV (As := [.int c0, .int k0]) (rest := []) ⟨hx, hb, hml, hown, hG⟩ (k_Mo_chooseXcV l D g ad N0 zG zO zX zY zA zB zM zI zL zK zN zF zQ c0 k0 hc) (aw_wV 2 hG gw_10_31 gw_10_28 gw_0_10 gw_10_29 gw_10_30 rfl rfl hd_Mo_choose ⟨Nat.le_of_ble_eq_true rfl, Nat.le_of_ble_eq_true rfl⟩) (ag_qV (va_recv hK hP rfl he5) hP hD hSh hU hS) rfl rfl hl.1 rfl (lv_room (Nat.le_of_ble_eq_true rfl)) d_La_law_139 ⟨by omega, by omega⟩) hS (fun _ _ h => h) (fun _ h => h) ?_
        clear hP hD hSh hS he5
        intro u8 t8 H locs ht _ _ hB _ _ hS
        obtain ⟨L, hP, hD, hSh⟩ := hB
        rw [ht] at hP
        clear ht
        refine lv_goto (tgt := 837) hx hb d_La_law_142 (by decide) ?_
        refine lv_iinc (k := 5) (v := nI (6 * t + 6)) hx hb d_La_law_837 hl rfl (aw_inc (6 * t) 6 6 (by decide +kernel)) (by decide) rfl (fun ls hl => ?_)
        have hl : lv_has ls 8 [(4, .int (nI (6 * t + 6))), (5, .int (nI 1)), (0, .ref b), (1, .ref (aw_r ad 0)), (2, .ref (aw_m ad 0)), (3, .ref (aw_o ad))] := hl
        refine lv_goto (tgt := 23) hx hb d_La_law_840 (by decide) ?_
        have hl := lv_sub hl (l' := [(0, .ref b), (1, .ref (aw_r ad 0)), (2, .ref (aw_m ad 0)), (3, .ref (aw_o ad)), (4, .int (nI (6 * t + 6)))]) [2, 3, 4, 5, 0] rfl
        refine W.widen (k := 85 + (t + 1)) (n := 1246 + 6 * (t + 1)) (by omega) (by omega) ?_
        exact ih (t + 1) zG zO zX zY zA zB zM zI zL zK zN (nI 1) zQ _ _ L ls (by omega) hP hD hSh hR hS (by first | exact hl | simpa [Nat.mul_add] using hl)
      · have hgj := hSh.2.2.2.2.1 j hj
        have hq1 : (zM j).1 = (zG j).1 := by rw [hR.1 j hj]
        have hq2 : (zM j).2 = (zG j).2 := by rw [hR.1 j hj]
        rcases aw_rng 5 (by decide) k0 with hk | ⟨k, hk, rfl⟩
        · refine lv_aload_n hx hb d_La_law_108 rfl (lv_at hl 1 rfl) ?_
          refine lv_aload_n hx hb d_La_law_109 rfl (lv_at hl 0 rfl) ?_
          refine lv_iload hx hb d_La_law_110 (lv_at hl 4 rfl) ?_
          refine lv_iconst (v := nI 1) hx hb d_La_law_112 (by decide +kernel) ?_
          refine lv_iadd hx hb d_La_law_113 ?_
          refine aw_ti (nI_add (6 * t) 1) ?_
          refine va_sld hx hb hX hbl hbA hS (i := (nI ((6 * t) + 1))) (vp_in_nI (by omega) (by omega)) d_La_law_114 ?_
          refine aw_ti (y := nI j) (by rw [nI_clamp (by omega)]; exact hc0.symm) ?_
          refine lv_aload_n hx hb d_La_law_115 rfl (lv_at hl 0 rfl) ?_
          refine lv_iload hx hb d_La_law_116 (lv_at hl 4 rfl) ?_
          refine lv_iconst (v := nI 2) hx hb d_La_law_118 (by decide +kernel) ?_
          refine lv_iadd hx hb d_La_law_119 ?_
          refine aw_ti (nI_add (6 * t) 2) ?_
          refine va_sld hx hb hX hbl hbA hS (i := (nI ((6 * t) + 2))) (vp_in_nI (by omega) (by omega)) d_La_law_120 ?_
          refine aw_ti (y := k0) (by rw [nI_clamp (by omega)]; exact hk0.symm) ?_
          refine va_calli (vx_runSW (As := [.ref (aw_r ad 0), .int (nI j), .int k0]) (rest := []) ⟨hx, hb, hml, hown, hG⟩ (k_La_chooseXaV l hst D g ad N0 zG zO zX zY zA zB zM zI zL zK zN zF zQ j k0 hj hk) (aw_wW 3 hG gw_2_37 gw_2_35 gw_0_0 gw_2_36 rfl rfl hd_La_choose ⟨Nat.le_of_ble_eq_true rfl, Nat.le_of_ble_eq_true rfl⟩) (ag_qS hP hD hSh hU hS) rfl rfl hl.1 rfl (lv_room (Nat.le_of_ble_eq_true rfl)) d_La_law_121 ⟨by omega, by omega⟩) hS (fun _ _ h => h) (fun _ h => h) ?_
          clear hP hD hSh hS
          intro x6 u8 t8 H locs ht _ ex6 hB _ _ hS
          obtain ⟨L, hP, hD, hSh⟩ := hB
          rw [ht] at hP
          clear ht
          subst ex6
          refine lv_istore hx hb d_La_law_124 hl (by decide) rfl (fun ls hl => ?_)
          have hl : lv_has ls 8 [(5, .int (nI 2)), (0, .ref b), (1, .ref (aw_r ad 0)), (2, .ref (aw_m ad 0)), (3, .ref (aw_o ad)), (4, .int (nI (6 * t)))] := hl
          refine lv_aload_n hx hb d_La_law_126 rfl (lv_at hl 3 rfl) ?_
          refine lv_aload_n hx hb d_La_law_127 rfl (lv_at hl 1 rfl) ?_
          refine lv_iload hx hb d_La_law_128 (lv_at hl 5 rfl) ?_
          refine lv_iconst (v := nI 1) hx hb d_La_law_130 (by decide +kernel) ?_
          refine lv_iadd hx hb d_La_law_131 ?_
          refine aw_ti (nI_add (6 * t) 1) ?_
          refine va_sld hx hb hX hbl hbA hS (i := (nI ((6 * t) + 1))) (vp_in_nI (by omega) (by omega)) d_La_law_132 ?_
          refine aw_ti (y := nI j) (by rw [nI_clamp (by omega)]; exact hc0.symm) ?_
          refine lv_aload_n hx hb d_La_law_133 rfl (lv_at hl 1 rfl) ?_
          refine lv_iload hx hb d_La_law_134 (lv_at hl 5 rfl) ?_
          refine lv_iconst (v := nI 2) hx hb d_La_law_136 (by decide +kernel) ?_
          refine lv_iadd hx hb d_La_law_137 ?_
          refine aw_ti (nI_add (6 * t) 2) ?_
          refine va_sld hx hb hX hbl hbA hS (i := (nI ((6 * t) + 2))) (vp_in_nI (by omega) (by omega)) d_La_law_138 ?_
          refine aw_ti (y := k0) (by rw [nI_clamp (by omega)]; exact hk0.symm) ?_
          obtain ⟨_, he7⟩ := zr_M0 hSh
          refine va_callv (va_runV (As := [.int (nI j), .int k0]) (rest := []) ⟨hx, hb, hml, hown, hG⟩ (k_Mo_chooseXaV l D g ad N0 zG zO zX zY zA zB zM zI zL zK zN zF zQ j k0 hj (aw_bnd 4 (by decide) hk)) (aw_wV 2 hG gw_10_31 gw_10_28 gw_0_10 gw_10_29 gw_10_30 rfl rfl hd_Mo_choose ⟨Nat.le_of_ble_eq_true rfl, Nat.le_of_ble_eq_true rfl⟩) (ag_qV (va_recv hK hP rfl he7) hP hD hSh hU hS) rfl rfl hl.1 rfl (lv_room (Nat.le_of_ble_eq_true rfl)) d_La_law_139 ⟨by omega, by omega⟩) hS (fun _ _ h => h) (fun _ h => h) ?_
          clear hP hD hSh hS he7
          intro u8 t8 H locs ht _ _ hB _ _ hS
          obtain ⟨L, hP, hD, hSh⟩ := hB
          rw [ht] at hP
          clear ht
          refine lv_goto (tgt := 837) hx hb d_La_law_142 (by decide) ?_
          refine lv_iinc (k := 5) (v := nI (6 * t + 6)) hx hb d_La_law_837 hl rfl (aw_inc (6 * t) 6 6 (by decide +kernel)) (by decide) rfl (fun ls hl => ?_)
          have hl : lv_has ls 8 [(4, .int (nI (6 * t + 6))), (5, .int (nI 2)), (0, .ref b), (1, .ref (aw_r ad 0)), (2, .ref (aw_m ad 0)), (3, .ref (aw_o ad))] := hl
          refine lv_goto (tgt := 23) hx hb d_La_law_840 (by decide) ?_
          have hl := lv_sub hl (l' := [(0, .ref b), (1, .ref (aw_r ad 0)), (2, .ref (aw_m ad 0)), (3, .ref (aw_o ad)), (4, .int (nI (6 * t + 6)))]) [2, 3, 4, 5, 0] rfl
          refine W.widen (k := 85 + (t + 1)) (n := 1246 + 6 * (t + 1)) (by omega) (by omega) ?_
          exact ih (t + 1) zG zO zX zY zA zB zM zI zL zK zN (nI 2) zQ _ _ L ls (by omega) hP hD hSh hR hS (by first | exact hl | simpa [Nat.mul_add] using hl)
        · by_cases hs : (zG j).1 = 0
          · refine lv_aload_n hx hb d_La_law_108 rfl (lv_at hl 1 rfl) ?_
            refine lv_aload_n hx hb d_La_law_109 rfl (lv_at hl 0 rfl) ?_
            refine lv_iload hx hb d_La_law_110 (lv_at hl 4 rfl) ?_
            refine lv_iconst (v := nI 1) hx hb d_La_law_112 (by decide +kernel) ?_
            refine lv_iadd hx hb d_La_law_113 ?_
            refine aw_ti (nI_add (6 * t) 1) ?_
            refine va_sld hx hb hX hbl hbA hS (i := (nI ((6 * t) + 1))) (vp_in_nI (by omega) (by omega)) d_La_law_114 ?_
            refine aw_ti (y := nI j) (by rw [nI_clamp (by omega)]; exact hc0.symm) ?_
            refine lv_aload_n hx hb d_La_law_115 rfl (lv_at hl 0 rfl) ?_
            refine lv_iload hx hb d_La_law_116 (lv_at hl 4 rfl) ?_
            refine lv_iconst (v := nI 2) hx hb d_La_law_118 (by decide +kernel) ?_
            refine lv_iadd hx hb d_La_law_119 ?_
            refine aw_ti (nI_add (6 * t) 2) ?_
            refine va_sld hx hb hX hbl hbA hS (i := (nI ((6 * t) + 2))) (vp_in_nI (by omega) (by omega)) d_La_law_120 ?_
            refine aw_ti (y := nI k) (by rw [nI_clamp (by omega)]; exact hk0.symm) ?_
            refine va_calli (vx_runSW (As := [.ref (aw_r ad 0), .int (nI j), .int (nI k)]) (rest := []) ⟨hx, hb, hml, hown, hG⟩ (k_La_choose1V l hst D g ad N0 zG zO zX zY zA zB zM zI zL zK zN zF zQ j k hj (by omega) (by omega)) (aw_wW 3 hG gw_2_37 gw_2_35 gw_0_0 gw_2_36 rfl rfl hd_La_choose ⟨Nat.le_of_ble_eq_true rfl, Nat.le_of_ble_eq_true rfl⟩) (ag_qS hP hD hSh hU hS) rfl rfl hl.1 rfl (lv_room (Nat.le_of_ble_eq_true rfl)) d_La_law_121 ⟨by omega, by omega⟩) hS (fun _ _ h => h) (fun _ h => h) ?_
            clear hP hD hSh hS
            intro x8 u8 t8 H locs ht _ ex8 hB _ _ hS
            obtain ⟨L, hP, hD, hSh⟩ := hB
            rw [ht] at hP
            clear ht
            subst ex8
            obtain ⟨zG9, ezG9⟩ : ∃ z : Nat → Nat × Nat, v_La_choose1V_zG zG zO j k = z := ⟨_, rfl⟩
            rw [ezG9] at hSh
            obtain ⟨zO10, ezO10⟩ : ∃ z : Nat → Nat, v_La_choose1V_zO zG zO j k = z := ⟨_, rfl⟩
            rw [ezO10] at hSh
            refine lv_istore hx hb d_La_law_124 hl (by decide) rfl (fun ls hl => ?_)
            have hl : lv_has ls 8 [(5, .int (nI 0)), (0, .ref b), (1, .ref (aw_r ad 0)), (2, .ref (aw_m ad 0)), (3, .ref (aw_o ad)), (4, .int (nI (6 * t)))] := hl
            refine lv_aload_n hx hb d_La_law_126 rfl (lv_at hl 3 rfl) ?_
            refine lv_aload_n hx hb d_La_law_127 rfl (lv_at hl 1 rfl) ?_
            refine lv_iload hx hb d_La_law_128 (lv_at hl 5 rfl) ?_
            refine lv_iconst (v := nI 1) hx hb d_La_law_130 (by decide +kernel) ?_
            refine lv_iadd hx hb d_La_law_131 ?_
            refine aw_ti (nI_add (6 * t) 1) ?_
            refine va_sld hx hb hX hbl hbA hS (i := (nI ((6 * t) + 1))) (vp_in_nI (by omega) (by omega)) d_La_law_132 ?_
            refine aw_ti (y := nI j) (by rw [nI_clamp (by omega)]; exact hc0.symm) ?_
            refine lv_aload_n hx hb d_La_law_133 rfl (lv_at hl 1 rfl) ?_
            refine lv_iload hx hb d_La_law_134 (lv_at hl 5 rfl) ?_
            refine lv_iconst (v := nI 2) hx hb d_La_law_136 (by decide +kernel) ?_
            refine lv_iadd hx hb d_La_law_137 ?_
            refine aw_ti (nI_add (6 * t) 2) ?_
            refine va_sld hx hb hX hbl hbA hS (i := (nI ((6 * t) + 2))) (vp_in_nI (by omega) (by omega)) d_La_law_138 ?_
            refine aw_ti (y := nI k) (by rw [nI_clamp (by omega)]; exact hk0.symm) ?_
            obtain ⟨_, he11⟩ := zr_M0 hSh
            refine va_callv (va_runV (As := [.int (nI j), .int (nI k)]) (rest := []) ⟨hx, hb, hml, hown, hG⟩ (k_Mo_choose1V l D g ad N0 zG9 zO10 zX zY zA zB zM zI zL zK zN zF zQ j k hj (by omega) (by omega)) (aw_wV 2 hG gw_10_31 gw_10_28 gw_0_10 gw_10_29 gw_10_30 rfl rfl hd_Mo_choose ⟨Nat.le_of_ble_eq_true rfl, Nat.le_of_ble_eq_true rfl⟩) (ag_qV (va_recv hK hP rfl he11) hP hD hSh hU hS) rfl rfl hl.1 rfl (lv_room (Nat.le_of_ble_eq_true rfl)) d_La_law_139 ⟨by omega, by omega⟩) hS (fun _ _ h => h) (fun _ h => h) ?_
            clear hP hD hSh hS he11
            intro u8 t8 H locs ht _ _ hB _ _ hS
            obtain ⟨L, hP, hD, hSh⟩ := hB
            rw [ht] at hP
            clear ht
            obtain ⟨zM12, ezM12⟩ : ∃ z : Nat → Nat × Nat, v_Mo_choose1V_zM zM zI j k = z := ⟨_, rfl⟩
            rw [ezM12] at hSh
            obtain ⟨zI13, ezI13⟩ : ∃ z : Nat → Nat → Int32, v_Mo_choose1V_zI zM zI j k = z := ⟨_, rfl⟩
            rw [ezI13] at hSh
            refine lv_goto (tgt := 837) hx hb d_La_law_142 (by decide) ?_
            refine lv_iinc (k := 5) (v := nI (6 * t + 6)) hx hb d_La_law_837 hl rfl (aw_inc (6 * t) 6 6 (by decide +kernel)) (by decide) rfl (fun ls hl => ?_)
            have hl : lv_has ls 8 [(4, .int (nI (6 * t + 6))), (5, .int (nI 0)), (0, .ref b), (1, .ref (aw_r ad 0)), (2, .ref (aw_m ad 0)), (3, .ref (aw_o ad))] := hl
            refine lv_goto (tgt := 23) hx hb d_La_law_840 (by decide) ?_
            have hl := lv_sub hl (l' := [(0, .ref b), (1, .ref (aw_r ad 0)), (2, .ref (aw_m ad 0)), (3, .ref (aw_o ad)), (4, .int (nI (6 * t + 6)))]) [2, 3, 4, 5, 0] rfl
            refine W.widen (k := 85 + (t + 1)) (n := 1246 + 6 * (t + 1)) (by omega) (by omega) ?_
            have hR : az_R zG9 zO10 zX zY zA zB zM12 zI13 zL := by
              subst ezI13 ezM12 ezO10 ezG9
              exact r_choose1 hR hj hk hs
            exact ih (t + 1) zG9 zO10 zX zY zA zB zM12 zI13 zL zK zN (nI 0) zQ _ _ L ls (by omega) hP hD hSh hR hS (by first | exact hl | simpa [Nat.mul_add] using hl)
          · refine lv_aload_n hx hb d_La_law_108 rfl (lv_at hl 1 rfl) ?_
            refine lv_aload_n hx hb d_La_law_109 rfl (lv_at hl 0 rfl) ?_
            refine lv_iload hx hb d_La_law_110 (lv_at hl 4 rfl) ?_
            refine lv_iconst (v := nI 1) hx hb d_La_law_112 (by decide +kernel) ?_
            refine lv_iadd hx hb d_La_law_113 ?_
            refine aw_ti (nI_add (6 * t) 1) ?_
            refine va_sld hx hb hX hbl hbA hS (i := (nI ((6 * t) + 1))) (vp_in_nI (by omega) (by omega)) d_La_law_114 ?_
            refine aw_ti (y := nI j) (by rw [nI_clamp (by omega)]; exact hc0.symm) ?_
            refine lv_aload_n hx hb d_La_law_115 rfl (lv_at hl 0 rfl) ?_
            refine lv_iload hx hb d_La_law_116 (lv_at hl 4 rfl) ?_
            refine lv_iconst (v := nI 2) hx hb d_La_law_118 (by decide +kernel) ?_
            refine lv_iadd hx hb d_La_law_119 ?_
            refine aw_ti (nI_add (6 * t) 2) ?_
            refine va_sld hx hb hX hbl hbA hS (i := (nI ((6 * t) + 2))) (vp_in_nI (by omega) (by omega)) d_La_law_120 ?_
            refine aw_ti (y := nI k) (by rw [nI_clamp (by omega)]; exact hk0.symm) ?_
            refine va_calli (vx_runSW (As := [.ref (aw_r ad 0), .int (nI j), .int (nI k)]) (rest := []) ⟨hx, hb, hml, hown, hG⟩ (k_La_chooseXsV l hst D g ad N0 zG zO zX zY zA zB zM zI zL zK zN zF zQ j k hj (by omega) (by omega)) (aw_wW 3 hG gw_2_37 gw_2_35 gw_0_0 gw_2_36 rfl rfl hd_La_choose ⟨Nat.le_of_ble_eq_true rfl, Nat.le_of_ble_eq_true rfl⟩) (ag_qS hP hD hSh hU hS) rfl rfl hl.1 rfl (lv_room (Nat.le_of_ble_eq_true rfl)) d_La_law_121 ⟨by omega, by omega⟩) hS (fun _ _ h => h) (fun _ h => h) ?_
            clear hP hD hSh hS
            intro x14 u8 t8 H locs ht _ ex14 hB _ _ hS
            obtain ⟨L, hP, hD, hSh⟩ := hB
            rw [ht] at hP
            clear ht
            subst ex14
            refine lv_istore hx hb d_La_law_124 hl (by decide) rfl (fun ls hl => ?_)
            have hl : lv_has ls 8 [(5, .int (nI 3)), (0, .ref b), (1, .ref (aw_r ad 0)), (2, .ref (aw_m ad 0)), (3, .ref (aw_o ad)), (4, .int (nI (6 * t)))] := hl
            refine lv_aload_n hx hb d_La_law_126 rfl (lv_at hl 3 rfl) ?_
            refine lv_aload_n hx hb d_La_law_127 rfl (lv_at hl 1 rfl) ?_
            refine lv_iload hx hb d_La_law_128 (lv_at hl 5 rfl) ?_
            refine lv_iconst (v := nI 1) hx hb d_La_law_130 (by decide +kernel) ?_
            refine lv_iadd hx hb d_La_law_131 ?_
            refine aw_ti (nI_add (6 * t) 1) ?_
            refine va_sld hx hb hX hbl hbA hS (i := (nI ((6 * t) + 1))) (vp_in_nI (by omega) (by omega)) d_La_law_132 ?_
            refine aw_ti (y := nI j) (by rw [nI_clamp (by omega)]; exact hc0.symm) ?_
            refine lv_aload_n hx hb d_La_law_133 rfl (lv_at hl 1 rfl) ?_
            refine lv_iload hx hb d_La_law_134 (lv_at hl 5 rfl) ?_
            refine lv_iconst (v := nI 2) hx hb d_La_law_136 (by decide +kernel) ?_
            refine lv_iadd hx hb d_La_law_137 ?_
            refine aw_ti (nI_add (6 * t) 2) ?_
            refine va_sld hx hb hX hbl hbA hS (i := (nI ((6 * t) + 2))) (vp_in_nI (by omega) (by omega)) d_La_law_138 ?_
            refine aw_ti (y := nI k) (by rw [nI_clamp (by omega)]; exact hk0.symm) ?_
            obtain ⟨_, he15⟩ := zr_M0 hSh
            refine va_callv (va_runV (As := [.int (nI j), .int (nI k)]) (rest := []) ⟨hx, hb, hml, hown, hG⟩ (k_Mo_chooseXsV l D g ad N0 zG zO zX zY zA zB zM zI zL zK zN zF zQ j k hj (by omega) (by omega)) (aw_wV 2 hG gw_10_31 gw_10_28 gw_0_10 gw_10_29 gw_10_30 rfl rfl hd_Mo_choose ⟨Nat.le_of_ble_eq_true rfl, Nat.le_of_ble_eq_true rfl⟩) (ag_qV (va_recv hK hP rfl he15) hP hD hSh hU hS) rfl rfl hl.1 rfl (lv_room (Nat.le_of_ble_eq_true rfl)) d_La_law_139 ⟨by omega, by omega⟩) hS (fun _ _ h => h) (fun _ h => h) ?_
            clear hP hD hSh hS he15
            intro u8 t8 H locs ht _ _ hB _ _ hS
            obtain ⟨L, hP, hD, hSh⟩ := hB
            rw [ht] at hP
            clear ht
            refine lv_goto (tgt := 837) hx hb d_La_law_142 (by decide) ?_
            refine lv_iinc (k := 5) (v := nI (6 * t + 6)) hx hb d_La_law_837 hl rfl (aw_inc (6 * t) 6 6 (by decide +kernel)) (by decide) rfl (fun ls hl => ?_)
            have hl : lv_has ls 8 [(4, .int (nI (6 * t + 6))), (5, .int (nI 3)), (0, .ref b), (1, .ref (aw_r ad 0)), (2, .ref (aw_m ad 0)), (3, .ref (aw_o ad))] := hl
            refine lv_goto (tgt := 23) hx hb d_La_law_840 (by decide) ?_
            have hl := lv_sub hl (l' := [(0, .ref b), (1, .ref (aw_r ad 0)), (2, .ref (aw_m ad 0)), (3, .ref (aw_o ad)), (4, .int (nI (6 * t + 6)))]) [2, 3, 4, 5, 0] rfl
            refine W.widen (k := 85 + (t + 1)) (n := 1246 + 6 * (t + 1)) (by omega) (by omega) ?_
            exact ih (t + 1) zG zO zX zY zA zB zM zI zL zK zN (nI 3) zQ _ _ L ls (by omega) hP hD hSh hR hS (by first | exact hl | simpa [Nat.mul_add] using hl)
    · refine aw_ti (y := nI 1) (by rw [hs3]) ?_
      refine lv_tableIn (tgt := 145) (off := 105) hx hb d_La_law_40 (by decide +kernel) (by decide +kernel) (by decide +kernel) (by decide) ?_
      obtain ⟨c0, hc0⟩ : ∃ z : Int32, z = xs (6 * t + 1) := ⟨_, rfl⟩
      obtain ⟨s2, hs2⟩ : ∃ z : Int32, z = xs (6 * t + 2) := ⟨_, rfl⟩
      obtain ⟨s3, hs3⟩ : ∃ z : Int32, z = xs (6 * t + 3) := ⟨_, rfl⟩
      obtain ⟨s4, hs4⟩ : ∃ z : Int32, z = xs (6 * t + 4) := ⟨_, rfl⟩
      obtain ⟨s5, hs5⟩ : ∃ z : Int32, z = xs (6 * t + 5) := ⟨_, rfl⟩
      rcases aw_rng 4 (by decide) c0 with hc | ⟨j, hj, rfl⟩
      · refine lv_aload_n hx hb d_La_law_145 rfl (lv_at hl 1 rfl) ?_
        refine lv_aload_n hx hb d_La_law_146 rfl (lv_at hl 0 rfl) ?_
        refine lv_iload hx hb d_La_law_147 (lv_at hl 4 rfl) ?_
        refine lv_iconst (v := nI 1) hx hb d_La_law_149 (by decide +kernel) ?_
        refine lv_iadd hx hb d_La_law_150 ?_
        refine aw_ti (nI_add (6 * t) 1) ?_
        refine va_sld hx hb hX hbl hbA hS (i := (nI ((6 * t) + 1))) (vp_in_nI (by omega) (by omega)) d_La_law_151 ?_
        refine aw_ti (y := c0) (by rw [nI_clamp (by omega)]; exact hc0.symm) ?_
        refine lv_aload_n hx hb d_La_law_152 rfl (lv_at hl 0 rfl) ?_
        refine lv_iload hx hb d_La_law_153 (lv_at hl 4 rfl) ?_
        refine lv_iconst (v := nI 2) hx hb d_La_law_155 (by decide +kernel) ?_
        refine lv_iadd hx hb d_La_law_156 ?_
        refine aw_ti (nI_add (6 * t) 2) ?_
        refine va_sld hx hb hX hbl hbA hS (i := (nI ((6 * t) + 2))) (vp_in_nI (by omega) (by omega)) d_La_law_157 ?_
        refine aw_ti (y := s2) (by rw [nI_clamp (by omega)]; exact hs2.symm) ?_
        refine lv_i2l hx hb d_La_law_158 rfl ?_
        refine ag_topl (fun y16 ey16 => ?_)
        refine lv_bipush (v := nI 32) hx hb d_La_law_159 (by decide +kernel) ?_
        refine lv_lshl hx hb d_La_law_161 rfl ?_
        refine ag_topl (fun y17 ey17 => ?_)
        refine lv_aload_n hx hb d_La_law_162 rfl (lv_at hl 0 rfl) ?_
        refine lv_iload hx hb d_La_law_163 (lv_at hl 4 rfl) ?_
        refine lv_iconst (v := nI 3) hx hb d_La_law_165 (by decide +kernel) ?_
        refine lv_iadd hx hb d_La_law_166 ?_
        refine aw_ti (nI_add (6 * t) 3) ?_
        refine va_sld hx hb hX hbl hbA hS (i := (nI ((6 * t) + 3))) (vp_in_nI (by omega) (by omega)) d_La_law_167 ?_
        refine aw_ti (y := s3) (by rw [nI_clamp (by omega)]; exact hs3.symm) ?_
        refine lv_i2l hx hb d_La_law_168 rfl ?_
        refine ag_topl (fun y18 ey18 => ?_)
        refine lv_ldc2 (v := 4294967295) hx hb hown (hG _ gw_13_3) d_La_law_169 ?_
        refine lv_land hx hb d_La_law_172 ?_
        refine ag_topl (fun y19 ey19 => ?_)
        refine lv_lor hx hb d_La_law_173 ?_
        refine ag_topl (fun y20 ey20 => ?_)
        refine lv_aload_n hx hb d_La_law_174 rfl (lv_at hl 0 rfl) ?_
        refine lv_iload hx hb d_La_law_175 (lv_at hl 4 rfl) ?_
        refine lv_iconst (v := nI 4) hx hb d_La_law_177 (by decide +kernel) ?_
        refine lv_iadd hx hb d_La_law_178 ?_
        refine aw_ti (nI_add (6 * t) 4) ?_
        refine va_sld hx hb hX hbl hbA hS (i := (nI ((6 * t) + 4))) (vp_in_nI (by omega) (by omega)) d_La_law_179 ?_
        refine aw_ti (y := s4) (by rw [nI_clamp (by omega)]; exact hs4.symm) ?_
        refine lv_i2l hx hb d_La_law_180 rfl ?_
        refine ag_topl (fun y21 ey21 => ?_)
        refine lv_bipush (v := nI 32) hx hb d_La_law_181 (by decide +kernel) ?_
        refine lv_lshl hx hb d_La_law_183 rfl ?_
        refine ag_topl (fun y22 ey22 => ?_)
        refine lv_aload_n hx hb d_La_law_184 rfl (lv_at hl 0 rfl) ?_
        refine lv_iload hx hb d_La_law_185 (lv_at hl 4 rfl) ?_
        refine lv_iconst (v := nI 5) hx hb d_La_law_187 (by decide +kernel) ?_
        refine lv_iadd hx hb d_La_law_188 ?_
        refine aw_ti (nI_add (6 * t) 5) ?_
        refine va_sld hx hb hX hbl hbA hS (i := (nI ((6 * t) + 5))) (vp_in_nI (by omega) (by omega)) d_La_law_189 ?_
        refine aw_ti (y := s5) (by rw [nI_clamp (by omega)]; exact hs5.symm) ?_
        refine lv_i2l hx hb d_La_law_190 rfl ?_
        refine ag_topl (fun y23 ey23 => ?_)
        refine lv_ldc2 (v := 4294967295) hx hb hown (hG _ gw_13_3) d_La_law_191 ?_
        refine lv_land hx hb d_La_law_194 ?_
        refine ag_topl (fun y24 ey24 => ?_)
        refine lv_lor hx hb d_La_law_195 ?_
        refine ag_topl (fun y25 ey25 => ?_)
        refine va_calli (vx_runSW (As := [.ref (aw_r ad 0), .int c0, .long y20, .long y25]) (rest := []) ⟨hx, hb, hml, hown, hG⟩ (k_La_keyXcV l hst D g ad N0 zG zO zX zY zA zB zM zI zL zK zN zF zQ c0 y20 y25 hc) (aw_wW 4 hG gw_4_19 gw_4_17 gw_0_0 gw_4_18 rfl rfl hd_La_key ⟨Nat.le_of_ble_eq_true rfl, Nat.le_of_ble_eq_true rfl⟩) (ag_qS hP hD hSh hU hS) rfl rfl hl.1 rfl (lv_room (Nat.le_of_ble_eq_true rfl)) d_La_law_196 ⟨by omega, by omega⟩) hS (fun _ _ h => h) (fun _ h => h) ?_
        clear hP hD hSh hS
        intro x26 u8 t8 H locs ht _ ex26 hB _ _ hS
        obtain ⟨L, hP, hD, hSh⟩ := hB
        rw [ht] at hP
        clear ht
        subst ex26
        refine lv_istore hx hb d_La_law_199 hl (by decide) rfl (fun ls hl => ?_)
        have hl : lv_has ls 8 [(5, .int (nI 1)), (0, .ref b), (1, .ref (aw_r ad 0)), (2, .ref (aw_m ad 0)), (3, .ref (aw_o ad)), (4, .int (nI (6 * t)))] := hl
        refine lv_aload_n hx hb d_La_law_201 rfl (lv_at hl 3 rfl) ?_
        refine lv_aload_n hx hb d_La_law_202 rfl (lv_at hl 1 rfl) ?_
        refine lv_iload hx hb d_La_law_203 (lv_at hl 5 rfl) ?_
        refine lv_iconst (v := nI 1) hx hb d_La_law_205 (by decide +kernel) ?_
        refine lv_iadd hx hb d_La_law_206 ?_
        refine aw_ti (nI_add (6 * t) 1) ?_
        refine va_sld hx hb hX hbl hbA hS (i := (nI ((6 * t) + 1))) (vp_in_nI (by omega) (by omega)) d_La_law_207 ?_
        refine aw_ti (y := c0) (by rw [nI_clamp (by omega)]; exact hc0.symm) ?_
        refine lv_aload_n hx hb d_La_law_208 rfl (lv_at hl 1 rfl) ?_
        refine lv_iload hx hb d_La_law_209 (lv_at hl 5 rfl) ?_
        refine lv_iconst (v := nI 2) hx hb d_La_law_211 (by decide +kernel) ?_
        refine lv_iadd hx hb d_La_law_212 ?_
        refine aw_ti (nI_add (6 * t) 2) ?_
        refine va_sld hx hb hX hbl hbA hS (i := (nI ((6 * t) + 2))) (vp_in_nI (by omega) (by omega)) d_La_law_213 ?_
        refine aw_ti (y := s2) (by rw [nI_clamp (by omega)]; exact hs2.symm) ?_
        refine lv_i2l hx hb d_La_law_214 rfl ?_
        refine ag_topl (fun y27 ey27 => ?_)
        refine lv_bipush (v := nI 32) hx hb d_La_law_215 (by decide +kernel) ?_
        refine lv_lshl hx hb d_La_law_217 rfl ?_
        refine ag_topl (fun y28 ey28 => ?_)
        refine lv_aload_n hx hb d_La_law_218 rfl (lv_at hl 1 rfl) ?_
        refine lv_iload hx hb d_La_law_219 (lv_at hl 5 rfl) ?_
        refine lv_iconst (v := nI 3) hx hb d_La_law_221 (by decide +kernel) ?_
        refine lv_iadd hx hb d_La_law_222 ?_
        refine aw_ti (nI_add (6 * t) 3) ?_
        refine va_sld hx hb hX hbl hbA hS (i := (nI ((6 * t) + 3))) (vp_in_nI (by omega) (by omega)) d_La_law_223 ?_
        refine aw_ti (y := s3) (by rw [nI_clamp (by omega)]; exact hs3.symm) ?_
        refine lv_i2l hx hb d_La_law_224 rfl ?_
        refine ag_topl (fun y29 ey29 => ?_)
        refine lv_ldc2 (v := 4294967295) hx hb hown (hG _ gw_13_3) d_La_law_225 ?_
        refine lv_land hx hb d_La_law_228 ?_
        refine ag_topl (fun y30 ey30 => ?_)
        refine lv_lor hx hb d_La_law_229 ?_
        refine ag_topl (fun y31 ey31 => ?_)
        refine lv_aload_n hx hb d_La_law_230 rfl (lv_at hl 1 rfl) ?_
        refine lv_iload hx hb d_La_law_231 (lv_at hl 5 rfl) ?_
        refine lv_iconst (v := nI 4) hx hb d_La_law_233 (by decide +kernel) ?_
        refine lv_iadd hx hb d_La_law_234 ?_
        refine aw_ti (nI_add (6 * t) 4) ?_
        refine va_sld hx hb hX hbl hbA hS (i := (nI ((6 * t) + 4))) (vp_in_nI (by omega) (by omega)) d_La_law_235 ?_
        refine aw_ti (y := s4) (by rw [nI_clamp (by omega)]; exact hs4.symm) ?_
        refine lv_i2l hx hb d_La_law_236 rfl ?_
        refine ag_topl (fun y32 ey32 => ?_)
        refine lv_bipush (v := nI 32) hx hb d_La_law_237 (by decide +kernel) ?_
        refine lv_lshl hx hb d_La_law_239 rfl ?_
        refine ag_topl (fun y33 ey33 => ?_)
        refine lv_aload_n hx hb d_La_law_240 rfl (lv_at hl 1 rfl) ?_
        refine lv_iload hx hb d_La_law_241 (lv_at hl 5 rfl) ?_
        refine lv_iconst (v := nI 5) hx hb d_La_law_243 (by decide +kernel) ?_
        refine lv_iadd hx hb d_La_law_244 ?_
        refine aw_ti (nI_add (6 * t) 5) ?_
        refine va_sld hx hb hX hbl hbA hS (i := (nI ((6 * t) + 5))) (vp_in_nI (by omega) (by omega)) d_La_law_245 ?_
        refine aw_ti (y := s5) (by rw [nI_clamp (by omega)]; exact hs5.symm) ?_
        refine lv_i2l hx hb d_La_law_246 rfl ?_
        refine ag_topl (fun y34 ey34 => ?_)
        refine lv_ldc2 (v := 4294967295) hx hb hown (hG _ gw_13_3) d_La_law_247 ?_
        refine lv_land hx hb d_La_law_250 ?_
        refine ag_topl (fun y35 ey35 => ?_)
        refine lv_lor hx hb d_La_law_251 ?_
        refine ag_topl (fun y36 ey36 => ?_)
        obtain ⟨_, he37⟩ := zr_M0 hSh
        refine va_callv (va_runV (As := [.int c0, .long y31, .long y36]) (rest := []) ⟨hx, hb, hml, hown, hG⟩ (k_Mo_keyXcV l D g ad N0 zG zO zX zY zA zB zM zI zL zK zN zF zQ c0 y31 y36 hc) (aw_wV 3 hG gw_10_41 gw_10_38 gw_0_10 gw_10_39 gw_10_40 rfl rfl hd_Mo_key ⟨Nat.le_of_ble_eq_true rfl, Nat.le_of_ble_eq_true rfl⟩) (ag_qV (va_recv hK hP rfl he37) hP hD hSh hU hS) rfl rfl hl.1 rfl (lv_room (Nat.le_of_ble_eq_true rfl)) d_La_law_252 ⟨by omega, by omega⟩) hS (fun _ _ h => h) (fun _ h => h) ?_
        clear hP hD hSh hS he37
        intro u8 t8 H locs ht _ _ hB _ _ hS
        obtain ⟨L, hP, hD, hSh⟩ := hB
        rw [ht] at hP
        clear ht
        refine lv_aload_n hx hb d_La_law_255 rfl (lv_at hl 3 rfl) ?_
        obtain ⟨_, he38⟩ := zr_M0 hSh
        refine va_calli (va_runV (As := []) (rest := []) ⟨hx, hb, hml, hown, hG⟩ (k_Mo_thrownV l D g ad N0 zG zO zX zY zA zB zM zI zL zK zN (nI 1) zQ) (aw_wV 0 hG gw_10_27 gw_10_24 gw_0_10 gw_10_25 gw_10_26 rfl rfl hd_Mo_thrown ⟨Nat.le_of_ble_eq_true rfl, Nat.le_of_ble_eq_true rfl⟩) (ag_qV (va_recv hK hP rfl he38) hP hD hSh hU hS) rfl rfl hl.1 rfl (lv_room (Nat.le_of_ble_eq_true rfl)) d_La_law_256 ⟨by omega, by omega⟩) hS (fun _ _ h => h) (fun _ h => h) (fun x39 u8 t8 H locs ht _ ex39 hB _ _ hS => ?_)
        obtain ⟨L, hP, hD, hSh⟩ := hB
        rw [ht] at hP
        clear ht
        have ex39 : x39 = nI 1 := ex39
        subst ex39
        refine lv_iload hx hb d_La_law_259 (lv_at hl 0 rfl) ?_
        refine lv_icmp_eq (tgt := 266) hx hb d_La_law_261 (by decide) (fun _ => ?_) (fun h => absurd (by decide +kernel) h)
        refine lv_goto (tgt := 837) hx hb d_La_law_266 (by decide) ?_
        refine lv_iinc (k := 5) (v := nI (6 * t + 6)) hx hb d_La_law_837 hl rfl (aw_inc (6 * t) 6 6 (by decide +kernel)) (by decide) rfl (fun ls hl => ?_)
        have hl : lv_has ls 8 [(4, .int (nI (6 * t + 6))), (5, .int (nI 1)), (0, .ref b), (1, .ref (aw_r ad 0)), (2, .ref (aw_m ad 0)), (3, .ref (aw_o ad))] := hl
        refine lv_goto (tgt := 23) hx hb d_La_law_840 (by decide) ?_
        have hl := lv_sub hl (l' := [(0, .ref b), (1, .ref (aw_r ad 0)), (2, .ref (aw_m ad 0)), (3, .ref (aw_o ad)), (4, .int (nI (6 * t + 6)))]) [2, 3, 4, 5, 0] rfl
        refine W.widen (k := 85 + (t + 1)) (n := 1246 + 6 * (t + 1)) (by omega) (by omega) ?_
        exact ih (t + 1) zG zO zX zY zA zB zM zI zL zK zN (nI 1) zQ _ _ L ls (by omega) hP hD hSh hR hS (by first | exact hl | simpa [Nat.mul_add] using hl)
      · have hgj := hSh.2.2.2.2.1 j hj
        have hq1 : (zM j).1 = (zG j).1 := by rw [hR.1 j hj]
        have hq2 : (zM j).2 = (zG j).2 := by rw [hR.1 j hj]
        by_cases hs : (zG j).1 = 0
        · refine lv_aload_n hx hb d_La_law_145 rfl (lv_at hl 1 rfl) ?_
          refine lv_aload_n hx hb d_La_law_146 rfl (lv_at hl 0 rfl) ?_
          refine lv_iload hx hb d_La_law_147 (lv_at hl 4 rfl) ?_
          refine lv_iconst (v := nI 1) hx hb d_La_law_149 (by decide +kernel) ?_
          refine lv_iadd hx hb d_La_law_150 ?_
          refine aw_ti (nI_add (6 * t) 1) ?_
          refine va_sld hx hb hX hbl hbA hS (i := (nI ((6 * t) + 1))) (vp_in_nI (by omega) (by omega)) d_La_law_151 ?_
          refine aw_ti (y := nI j) (by rw [nI_clamp (by omega)]; exact hc0.symm) ?_
          refine lv_aload_n hx hb d_La_law_152 rfl (lv_at hl 0 rfl) ?_
          refine lv_iload hx hb d_La_law_153 (lv_at hl 4 rfl) ?_
          refine lv_iconst (v := nI 2) hx hb d_La_law_155 (by decide +kernel) ?_
          refine lv_iadd hx hb d_La_law_156 ?_
          refine aw_ti (nI_add (6 * t) 2) ?_
          refine va_sld hx hb hX hbl hbA hS (i := (nI ((6 * t) + 2))) (vp_in_nI (by omega) (by omega)) d_La_law_157 ?_
          refine aw_ti (y := s2) (by rw [nI_clamp (by omega)]; exact hs2.symm) ?_
          refine lv_i2l hx hb d_La_law_158 rfl ?_
          refine ag_topl (fun y40 ey40 => ?_)
          refine lv_bipush (v := nI 32) hx hb d_La_law_159 (by decide +kernel) ?_
          refine lv_lshl hx hb d_La_law_161 rfl ?_
          refine ag_topl (fun y41 ey41 => ?_)
          refine lv_aload_n hx hb d_La_law_162 rfl (lv_at hl 0 rfl) ?_
          refine lv_iload hx hb d_La_law_163 (lv_at hl 4 rfl) ?_
          refine lv_iconst (v := nI 3) hx hb d_La_law_165 (by decide +kernel) ?_
          refine lv_iadd hx hb d_La_law_166 ?_
          refine aw_ti (nI_add (6 * t) 3) ?_
          refine va_sld hx hb hX hbl hbA hS (i := (nI ((6 * t) + 3))) (vp_in_nI (by omega) (by omega)) d_La_law_167 ?_
          refine aw_ti (y := s3) (by rw [nI_clamp (by omega)]; exact hs3.symm) ?_
          refine lv_i2l hx hb d_La_law_168 rfl ?_
          refine ag_topl (fun y42 ey42 => ?_)
          refine lv_ldc2 (v := 4294967295) hx hb hown (hG _ gw_13_3) d_La_law_169 ?_
          refine lv_land hx hb d_La_law_172 ?_
          refine ag_topl (fun y43 ey43 => ?_)
          refine lv_lor hx hb d_La_law_173 ?_
          refine ag_topl (fun y44 ey44 => ?_)
          refine lv_aload_n hx hb d_La_law_174 rfl (lv_at hl 0 rfl) ?_
          refine lv_iload hx hb d_La_law_175 (lv_at hl 4 rfl) ?_
          refine lv_iconst (v := nI 4) hx hb d_La_law_177 (by decide +kernel) ?_
          refine lv_iadd hx hb d_La_law_178 ?_
          refine aw_ti (nI_add (6 * t) 4) ?_
          refine va_sld hx hb hX hbl hbA hS (i := (nI ((6 * t) + 4))) (vp_in_nI (by omega) (by omega)) d_La_law_179 ?_
          refine aw_ti (y := s4) (by rw [nI_clamp (by omega)]; exact hs4.symm) ?_
          refine lv_i2l hx hb d_La_law_180 rfl ?_
          refine ag_topl (fun y45 ey45 => ?_)
          refine lv_bipush (v := nI 32) hx hb d_La_law_181 (by decide +kernel) ?_
          refine lv_lshl hx hb d_La_law_183 rfl ?_
          refine ag_topl (fun y46 ey46 => ?_)
          refine lv_aload_n hx hb d_La_law_184 rfl (lv_at hl 0 rfl) ?_
          refine lv_iload hx hb d_La_law_185 (lv_at hl 4 rfl) ?_
          refine lv_iconst (v := nI 5) hx hb d_La_law_187 (by decide +kernel) ?_
          refine lv_iadd hx hb d_La_law_188 ?_
          refine aw_ti (nI_add (6 * t) 5) ?_
          refine va_sld hx hb hX hbl hbA hS (i := (nI ((6 * t) + 5))) (vp_in_nI (by omega) (by omega)) d_La_law_189 ?_
          refine aw_ti (y := s5) (by rw [nI_clamp (by omega)]; exact hs5.symm) ?_
          refine lv_i2l hx hb d_La_law_190 rfl ?_
          refine ag_topl (fun y47 ey47 => ?_)
          refine lv_ldc2 (v := 4294967295) hx hb hown (hG _ gw_13_3) d_La_law_191 ?_
          refine lv_land hx hb d_La_law_194 ?_
          refine ag_topl (fun y48 ey48 => ?_)
          refine lv_lor hx hb d_La_law_195 ?_
          refine ag_topl (fun y49 ey49 => ?_)
          refine va_calli (vx_runSW (As := [.ref (aw_r ad 0), .int (nI j), .long y44, .long y49]) (rest := []) ⟨hx, hb, hml, hown, hG⟩ (k_La_keyXsV l hst D g ad N0 zG zO zX zY zA zB zM zI zL zK zN zF zQ j y44 y49 hj (by omega)) (aw_wW 4 hG gw_4_19 gw_4_17 gw_0_0 gw_4_18 rfl rfl hd_La_key ⟨Nat.le_of_ble_eq_true rfl, Nat.le_of_ble_eq_true rfl⟩) (ag_qS hP hD hSh hU hS) rfl rfl hl.1 rfl (lv_room (Nat.le_of_ble_eq_true rfl)) d_La_law_196 ⟨by omega, by omega⟩) hS (fun _ _ h => h) (fun _ h => h) ?_
          clear hP hD hSh hS
          intro x50 u8 t8 H locs ht _ ex50 hB _ _ hS
          obtain ⟨L, hP, hD, hSh⟩ := hB
          rw [ht] at hP
          clear ht
          subst ex50
          refine lv_istore hx hb d_La_law_199 hl (by decide) rfl (fun ls hl => ?_)
          have hl : lv_has ls 8 [(5, .int (nI 2)), (0, .ref b), (1, .ref (aw_r ad 0)), (2, .ref (aw_m ad 0)), (3, .ref (aw_o ad)), (4, .int (nI (6 * t)))] := hl
          refine lv_aload_n hx hb d_La_law_201 rfl (lv_at hl 3 rfl) ?_
          refine lv_aload_n hx hb d_La_law_202 rfl (lv_at hl 1 rfl) ?_
          refine lv_iload hx hb d_La_law_203 (lv_at hl 5 rfl) ?_
          refine lv_iconst (v := nI 1) hx hb d_La_law_205 (by decide +kernel) ?_
          refine lv_iadd hx hb d_La_law_206 ?_
          refine aw_ti (nI_add (6 * t) 1) ?_
          refine va_sld hx hb hX hbl hbA hS (i := (nI ((6 * t) + 1))) (vp_in_nI (by omega) (by omega)) d_La_law_207 ?_
          refine aw_ti (y := nI j) (by rw [nI_clamp (by omega)]; exact hc0.symm) ?_
          refine lv_aload_n hx hb d_La_law_208 rfl (lv_at hl 1 rfl) ?_
          refine lv_iload hx hb d_La_law_209 (lv_at hl 5 rfl) ?_
          refine lv_iconst (v := nI 2) hx hb d_La_law_211 (by decide +kernel) ?_
          refine lv_iadd hx hb d_La_law_212 ?_
          refine aw_ti (nI_add (6 * t) 2) ?_
          refine va_sld hx hb hX hbl hbA hS (i := (nI ((6 * t) + 2))) (vp_in_nI (by omega) (by omega)) d_La_law_213 ?_
          refine aw_ti (y := s2) (by rw [nI_clamp (by omega)]; exact hs2.symm) ?_
          refine lv_i2l hx hb d_La_law_214 rfl ?_
          refine ag_topl (fun y51 ey51 => ?_)
          refine lv_bipush (v := nI 32) hx hb d_La_law_215 (by decide +kernel) ?_
          refine lv_lshl hx hb d_La_law_217 rfl ?_
          refine ag_topl (fun y52 ey52 => ?_)
          refine lv_aload_n hx hb d_La_law_218 rfl (lv_at hl 1 rfl) ?_
          refine lv_iload hx hb d_La_law_219 (lv_at hl 5 rfl) ?_
          refine lv_iconst (v := nI 3) hx hb d_La_law_221 (by decide +kernel) ?_
          refine lv_iadd hx hb d_La_law_222 ?_
          refine aw_ti (nI_add (6 * t) 3) ?_
          refine va_sld hx hb hX hbl hbA hS (i := (nI ((6 * t) + 3))) (vp_in_nI (by omega) (by omega)) d_La_law_223 ?_
          refine aw_ti (y := s3) (by rw [nI_clamp (by omega)]; exact hs3.symm) ?_
          refine lv_i2l hx hb d_La_law_224 rfl ?_
          refine ag_topl (fun y53 ey53 => ?_)
          refine lv_ldc2 (v := 4294967295) hx hb hown (hG _ gw_13_3) d_La_law_225 ?_
          refine lv_land hx hb d_La_law_228 ?_
          refine ag_topl (fun y54 ey54 => ?_)
          refine lv_lor hx hb d_La_law_229 ?_
          refine ag_topl (fun y55 ey55 => ?_)
          refine lv_aload_n hx hb d_La_law_230 rfl (lv_at hl 1 rfl) ?_
          refine lv_iload hx hb d_La_law_231 (lv_at hl 5 rfl) ?_
          refine lv_iconst (v := nI 4) hx hb d_La_law_233 (by decide +kernel) ?_
          refine lv_iadd hx hb d_La_law_234 ?_
          refine aw_ti (nI_add (6 * t) 4) ?_
          refine va_sld hx hb hX hbl hbA hS (i := (nI ((6 * t) + 4))) (vp_in_nI (by omega) (by omega)) d_La_law_235 ?_
          refine aw_ti (y := s4) (by rw [nI_clamp (by omega)]; exact hs4.symm) ?_
          refine lv_i2l hx hb d_La_law_236 rfl ?_
          refine ag_topl (fun y56 ey56 => ?_)
          refine lv_bipush (v := nI 32) hx hb d_La_law_237 (by decide +kernel) ?_
          refine lv_lshl hx hb d_La_law_239 rfl ?_
          refine ag_topl (fun y57 ey57 => ?_)
          refine lv_aload_n hx hb d_La_law_240 rfl (lv_at hl 1 rfl) ?_
          refine lv_iload hx hb d_La_law_241 (lv_at hl 5 rfl) ?_
          refine lv_iconst (v := nI 5) hx hb d_La_law_243 (by decide +kernel) ?_
          refine lv_iadd hx hb d_La_law_244 ?_
          refine aw_ti (nI_add (6 * t) 5) ?_
          refine va_sld hx hb hX hbl hbA hS (i := (nI ((6 * t) + 5))) (vp_in_nI (by omega) (by omega)) d_La_law_245 ?_
          refine aw_ti (y := s5) (by rw [nI_clamp (by omega)]; exact hs5.symm) ?_
          refine lv_i2l hx hb d_La_law_246 rfl ?_
          refine ag_topl (fun y58 ey58 => ?_)
          refine lv_ldc2 (v := 4294967295) hx hb hown (hG _ gw_13_3) d_La_law_247 ?_
          refine lv_land hx hb d_La_law_250 ?_
          refine ag_topl (fun y59 ey59 => ?_)
          refine lv_lor hx hb d_La_law_251 ?_
          refine ag_topl (fun y60 ey60 => ?_)
          obtain ⟨_, he61⟩ := zr_M0 hSh
          refine va_callv (va_runV (As := [.int (nI j), .long y55, .long y60]) (rest := []) ⟨hx, hb, hml, hown, hG⟩ (k_Mo_keyXsV l D g ad N0 zG zO zX zY zA zB zM zI zL zK zN zF zQ j y55 y60 hj (by omega)) (aw_wV 3 hG gw_10_41 gw_10_38 gw_0_10 gw_10_39 gw_10_40 rfl rfl hd_Mo_key ⟨Nat.le_of_ble_eq_true rfl, Nat.le_of_ble_eq_true rfl⟩) (ag_qV (va_recv hK hP rfl he61) hP hD hSh hU hS) rfl rfl hl.1 rfl (lv_room (Nat.le_of_ble_eq_true rfl)) d_La_law_252 ⟨by omega, by omega⟩) hS (fun _ _ h => h) (fun _ h => h) ?_
          clear hP hD hSh hS he61
          intro u8 t8 H locs ht _ _ hB _ _ hS
          obtain ⟨L, hP, hD, hSh⟩ := hB
          rw [ht] at hP
          clear ht
          refine lv_aload_n hx hb d_La_law_255 rfl (lv_at hl 3 rfl) ?_
          obtain ⟨_, he62⟩ := zr_M0 hSh
          refine va_calli (va_runV (As := []) (rest := []) ⟨hx, hb, hml, hown, hG⟩ (k_Mo_thrownV l D g ad N0 zG zO zX zY zA zB zM zI zL zK zN (nI 2) zQ) (aw_wV 0 hG gw_10_27 gw_10_24 gw_0_10 gw_10_25 gw_10_26 rfl rfl hd_Mo_thrown ⟨Nat.le_of_ble_eq_true rfl, Nat.le_of_ble_eq_true rfl⟩) (ag_qV (va_recv hK hP rfl he62) hP hD hSh hU hS) rfl rfl hl.1 rfl (lv_room (Nat.le_of_ble_eq_true rfl)) d_La_law_256 ⟨by omega, by omega⟩) hS (fun _ _ h => h) (fun _ h => h) (fun x63 u8 t8 H locs ht _ ex63 hB _ _ hS => ?_)
          obtain ⟨L, hP, hD, hSh⟩ := hB
          rw [ht] at hP
          clear ht
          have ex63 : x63 = nI 2 := ex63
          subst ex63
          refine lv_iload hx hb d_La_law_259 (lv_at hl 0 rfl) ?_
          refine lv_icmp_eq (tgt := 266) hx hb d_La_law_261 (by decide) (fun _ => ?_) (fun h => absurd (by decide +kernel) h)
          refine lv_goto (tgt := 837) hx hb d_La_law_266 (by decide) ?_
          refine lv_iinc (k := 5) (v := nI (6 * t + 6)) hx hb d_La_law_837 hl rfl (aw_inc (6 * t) 6 6 (by decide +kernel)) (by decide) rfl (fun ls hl => ?_)
          have hl : lv_has ls 8 [(4, .int (nI (6 * t + 6))), (5, .int (nI 2)), (0, .ref b), (1, .ref (aw_r ad 0)), (2, .ref (aw_m ad 0)), (3, .ref (aw_o ad))] := hl
          refine lv_goto (tgt := 23) hx hb d_La_law_840 (by decide) ?_
          have hl := lv_sub hl (l' := [(0, .ref b), (1, .ref (aw_r ad 0)), (2, .ref (aw_m ad 0)), (3, .ref (aw_o ad)), (4, .int (nI (6 * t + 6)))]) [2, 3, 4, 5, 0] rfl
          refine W.widen (k := 85 + (t + 1)) (n := 1246 + 6 * (t + 1)) (by omega) (by omega) ?_
          exact ih (t + 1) zG zO zX zY zA zB zM zI zL zK zN (nI 2) zQ _ _ L ls (by omega) hP hD hSh hR hS (by first | exact hl | simpa [Nat.mul_add] using hl)
        · refine lv_aload_n hx hb d_La_law_145 rfl (lv_at hl 1 rfl) ?_
          refine lv_aload_n hx hb d_La_law_146 rfl (lv_at hl 0 rfl) ?_
          refine lv_iload hx hb d_La_law_147 (lv_at hl 4 rfl) ?_
          refine lv_iconst (v := nI 1) hx hb d_La_law_149 (by decide +kernel) ?_
          refine lv_iadd hx hb d_La_law_150 ?_
          refine aw_ti (nI_add (6 * t) 1) ?_
          refine va_sld hx hb hX hbl hbA hS (i := (nI ((6 * t) + 1))) (vp_in_nI (by omega) (by omega)) d_La_law_151 ?_
          refine aw_ti (y := nI j) (by rw [nI_clamp (by omega)]; exact hc0.symm) ?_
          refine lv_aload_n hx hb d_La_law_152 rfl (lv_at hl 0 rfl) ?_
          refine lv_iload hx hb d_La_law_153 (lv_at hl 4 rfl) ?_
          refine lv_iconst (v := nI 2) hx hb d_La_law_155 (by decide +kernel) ?_
          refine lv_iadd hx hb d_La_law_156 ?_
          refine aw_ti (nI_add (6 * t) 2) ?_
          refine va_sld hx hb hX hbl hbA hS (i := (nI ((6 * t) + 2))) (vp_in_nI (by omega) (by omega)) d_La_law_157 ?_
          refine aw_ti (y := s2) (by rw [nI_clamp (by omega)]; exact hs2.symm) ?_
          refine lv_i2l hx hb d_La_law_158 rfl ?_
          refine ag_topl (fun y64 ey64 => ?_)
          refine lv_bipush (v := nI 32) hx hb d_La_law_159 (by decide +kernel) ?_
          refine lv_lshl hx hb d_La_law_161 rfl ?_
          refine ag_topl (fun y65 ey65 => ?_)
          refine lv_aload_n hx hb d_La_law_162 rfl (lv_at hl 0 rfl) ?_
          refine lv_iload hx hb d_La_law_163 (lv_at hl 4 rfl) ?_
          refine lv_iconst (v := nI 3) hx hb d_La_law_165 (by decide +kernel) ?_
          refine lv_iadd hx hb d_La_law_166 ?_
          refine aw_ti (nI_add (6 * t) 3) ?_
          refine va_sld hx hb hX hbl hbA hS (i := (nI ((6 * t) + 3))) (vp_in_nI (by omega) (by omega)) d_La_law_167 ?_
          refine aw_ti (y := s3) (by rw [nI_clamp (by omega)]; exact hs3.symm) ?_
          refine lv_i2l hx hb d_La_law_168 rfl ?_
          refine ag_topl (fun y66 ey66 => ?_)
          refine lv_ldc2 (v := 4294967295) hx hb hown (hG _ gw_13_3) d_La_law_169 ?_
          refine lv_land hx hb d_La_law_172 ?_
          refine ag_topl (fun y67 ey67 => ?_)
          refine lv_lor hx hb d_La_law_173 ?_
          refine ag_topl (fun y68 ey68 => ?_)
          refine lv_aload_n hx hb d_La_law_174 rfl (lv_at hl 0 rfl) ?_
          refine lv_iload hx hb d_La_law_175 (lv_at hl 4 rfl) ?_
          refine lv_iconst (v := nI 4) hx hb d_La_law_177 (by decide +kernel) ?_
          refine lv_iadd hx hb d_La_law_178 ?_
          refine aw_ti (nI_add (6 * t) 4) ?_
          refine va_sld hx hb hX hbl hbA hS (i := (nI ((6 * t) + 4))) (vp_in_nI (by omega) (by omega)) d_La_law_179 ?_
          refine aw_ti (y := s4) (by rw [nI_clamp (by omega)]; exact hs4.symm) ?_
          refine lv_i2l hx hb d_La_law_180 rfl ?_
          refine ag_topl (fun y69 ey69 => ?_)
          refine lv_bipush (v := nI 32) hx hb d_La_law_181 (by decide +kernel) ?_
          refine lv_lshl hx hb d_La_law_183 rfl ?_
          refine ag_topl (fun y70 ey70 => ?_)
          refine lv_aload_n hx hb d_La_law_184 rfl (lv_at hl 0 rfl) ?_
          refine lv_iload hx hb d_La_law_185 (lv_at hl 4 rfl) ?_
          refine lv_iconst (v := nI 5) hx hb d_La_law_187 (by decide +kernel) ?_
          refine lv_iadd hx hb d_La_law_188 ?_
          refine aw_ti (nI_add (6 * t) 5) ?_
          refine va_sld hx hb hX hbl hbA hS (i := (nI ((6 * t) + 5))) (vp_in_nI (by omega) (by omega)) d_La_law_189 ?_
          refine aw_ti (y := s5) (by rw [nI_clamp (by omega)]; exact hs5.symm) ?_
          refine lv_i2l hx hb d_La_law_190 rfl ?_
          refine ag_topl (fun y71 ey71 => ?_)
          refine lv_ldc2 (v := 4294967295) hx hb hown (hG _ gw_13_3) d_La_law_191 ?_
          refine lv_land hx hb d_La_law_194 ?_
          refine ag_topl (fun y72 ey72 => ?_)
          refine lv_lor hx hb d_La_law_195 ?_
          refine ag_topl (fun y73 ey73 => ?_)
          refine va_calli (vx_runSW (As := [.ref (aw_r ad 0), .int (nI j), .long y68, .long y73]) (rest := []) ⟨hx, hb, hml, hown, hG⟩ (k_La_key1V l hst D g ad N0 zG zO zX zY zA zB zM zI zL zK zN zF zQ j y68 y73 hj (by omega)) (aw_wW 4 hG gw_4_19 gw_4_17 gw_0_0 gw_4_18 rfl rfl hd_La_key ⟨Nat.le_of_ble_eq_true rfl, Nat.le_of_ble_eq_true rfl⟩) (ag_qS hP hD hSh hU hS) rfl rfl hl.1 rfl (lv_room (Nat.le_of_ble_eq_true rfl)) d_La_law_196 ⟨by omega, by omega⟩) hS (fun _ _ h => h) (fun _ h => h) ?_
          clear hP hD hSh hS
          intro x74 u8 t8 H locs ht _ ex74 hB _ _ hS
          obtain ⟨L, hP, hD, hSh⟩ := hB
          rw [ht] at hP
          clear ht
          subst ex74
          obtain ⟨zG75, ezG75⟩ : ∃ z : Nat → Nat × Nat, v_La_key1V_zG zG zO zA j y68 y73 = z := ⟨_, rfl⟩
          rw [ezG75] at hSh
          obtain ⟨zA76, ezA76⟩ : ∃ z : Nat → Nat → Nat → Int32, v_La_key1V_zA zG zO zA j y68 y73 = z := ⟨_, rfl⟩
          rw [ezA76] at hSh
          refine lv_istore hx hb d_La_law_199 hl (by decide) rfl (fun ls hl => ?_)
          have hl : lv_has ls 8 [(5, .int (nI 0)), (0, .ref b), (1, .ref (aw_r ad 0)), (2, .ref (aw_m ad 0)), (3, .ref (aw_o ad)), (4, .int (nI (6 * t)))] := hl
          refine lv_aload_n hx hb d_La_law_201 rfl (lv_at hl 3 rfl) ?_
          refine lv_aload_n hx hb d_La_law_202 rfl (lv_at hl 1 rfl) ?_
          refine lv_iload hx hb d_La_law_203 (lv_at hl 5 rfl) ?_
          refine lv_iconst (v := nI 1) hx hb d_La_law_205 (by decide +kernel) ?_
          refine lv_iadd hx hb d_La_law_206 ?_
          refine aw_ti (nI_add (6 * t) 1) ?_
          refine va_sld hx hb hX hbl hbA hS (i := (nI ((6 * t) + 1))) (vp_in_nI (by omega) (by omega)) d_La_law_207 ?_
          refine aw_ti (y := nI j) (by rw [nI_clamp (by omega)]; exact hc0.symm) ?_
          refine lv_aload_n hx hb d_La_law_208 rfl (lv_at hl 1 rfl) ?_
          refine lv_iload hx hb d_La_law_209 (lv_at hl 5 rfl) ?_
          refine lv_iconst (v := nI 2) hx hb d_La_law_211 (by decide +kernel) ?_
          refine lv_iadd hx hb d_La_law_212 ?_
          refine aw_ti (nI_add (6 * t) 2) ?_
          refine va_sld hx hb hX hbl hbA hS (i := (nI ((6 * t) + 2))) (vp_in_nI (by omega) (by omega)) d_La_law_213 ?_
          refine aw_ti (y := s2) (by rw [nI_clamp (by omega)]; exact hs2.symm) ?_
          refine lv_i2l hx hb d_La_law_214 rfl ?_
          refine ag_topl (fun y77 ey77 => ?_)
          refine lv_bipush (v := nI 32) hx hb d_La_law_215 (by decide +kernel) ?_
          refine lv_lshl hx hb d_La_law_217 rfl ?_
          refine ag_topl (fun y78 ey78 => ?_)
          refine lv_aload_n hx hb d_La_law_218 rfl (lv_at hl 1 rfl) ?_
          refine lv_iload hx hb d_La_law_219 (lv_at hl 5 rfl) ?_
          refine lv_iconst (v := nI 3) hx hb d_La_law_221 (by decide +kernel) ?_
          refine lv_iadd hx hb d_La_law_222 ?_
          refine aw_ti (nI_add (6 * t) 3) ?_
          refine va_sld hx hb hX hbl hbA hS (i := (nI ((6 * t) + 3))) (vp_in_nI (by omega) (by omega)) d_La_law_223 ?_
          refine aw_ti (y := s3) (by rw [nI_clamp (by omega)]; exact hs3.symm) ?_
          refine lv_i2l hx hb d_La_law_224 rfl ?_
          refine ag_topl (fun y79 ey79 => ?_)
          refine lv_ldc2 (v := 4294967295) hx hb hown (hG _ gw_13_3) d_La_law_225 ?_
          refine lv_land hx hb d_La_law_228 ?_
          refine ag_topl (fun y80 ey80 => ?_)
          refine lv_lor hx hb d_La_law_229 ?_
          refine ag_topl (fun y81 ey81 => ?_)
          refine lv_aload_n hx hb d_La_law_230 rfl (lv_at hl 1 rfl) ?_
          refine lv_iload hx hb d_La_law_231 (lv_at hl 5 rfl) ?_
          refine lv_iconst (v := nI 4) hx hb d_La_law_233 (by decide +kernel) ?_
          refine lv_iadd hx hb d_La_law_234 ?_
          refine aw_ti (nI_add (6 * t) 4) ?_
          refine va_sld hx hb hX hbl hbA hS (i := (nI ((6 * t) + 4))) (vp_in_nI (by omega) (by omega)) d_La_law_235 ?_
          refine aw_ti (y := s4) (by rw [nI_clamp (by omega)]; exact hs4.symm) ?_
          refine lv_i2l hx hb d_La_law_236 rfl ?_
          refine ag_topl (fun y82 ey82 => ?_)
          refine lv_bipush (v := nI 32) hx hb d_La_law_237 (by decide +kernel) ?_
          refine lv_lshl hx hb d_La_law_239 rfl ?_
          refine ag_topl (fun y83 ey83 => ?_)
          refine lv_aload_n hx hb d_La_law_240 rfl (lv_at hl 1 rfl) ?_
          refine lv_iload hx hb d_La_law_241 (lv_at hl 5 rfl) ?_
          refine lv_iconst (v := nI 5) hx hb d_La_law_243 (by decide +kernel) ?_
          refine lv_iadd hx hb d_La_law_244 ?_
          refine aw_ti (nI_add (6 * t) 5) ?_
          refine va_sld hx hb hX hbl hbA hS (i := (nI ((6 * t) + 5))) (vp_in_nI (by omega) (by omega)) d_La_law_245 ?_
          refine aw_ti (y := s5) (by rw [nI_clamp (by omega)]; exact hs5.symm) ?_
          refine lv_i2l hx hb d_La_law_246 rfl ?_
          refine ag_topl (fun y84 ey84 => ?_)
          refine lv_ldc2 (v := 4294967295) hx hb hown (hG _ gw_13_3) d_La_law_247 ?_
          refine lv_land hx hb d_La_law_250 ?_
          refine ag_topl (fun y85 ey85 => ?_)
          refine lv_lor hx hb d_La_law_251 ?_
          refine ag_topl (fun y86 ey86 => ?_)
          obtain ⟨_, he87⟩ := zr_M0 hSh
          refine va_callv (va_runV (As := [.int (nI j), .long y81, .long y86]) (rest := []) ⟨hx, hb, hml, hown, hG⟩ (k_Mo_key1V l D g ad N0 zG75 zO zX zY zA76 zB zM zI zL zK zN zF zQ j y81 y86 hj (by omega)) (aw_wV 3 hG gw_10_41 gw_10_38 gw_0_10 gw_10_39 gw_10_40 rfl rfl hd_Mo_key ⟨Nat.le_of_ble_eq_true rfl, Nat.le_of_ble_eq_true rfl⟩) (ag_qV (va_recv hK hP rfl he87) hP hD hSh hU hS) rfl rfl hl.1 rfl (lv_room (Nat.le_of_ble_eq_true rfl)) d_La_law_252 ⟨by omega, by omega⟩) hS (fun _ _ h => h) (fun _ h => h) ?_
          clear hP hD hSh hS he87
          intro u8 t8 H locs ht _ _ hB _ _ hS
          obtain ⟨L, hP, hD, hSh⟩ := hB
          rw [ht] at hP
          clear ht
          obtain ⟨zM88, ezM88⟩ : ∃ z : Nat → Nat × Nat, v_Mo_key1V_zM zM zI zL j y81 y86 = z := ⟨_, rfl⟩
          rw [ezM88] at hSh
          obtain ⟨zI89, ezI89⟩ : ∃ z : Nat → Nat → Int32, v_Mo_key1V_zI zM zI zL j y81 y86 = z := ⟨_, rfl⟩
          rw [ezI89] at hSh
          obtain ⟨zL90, ezL90⟩ : ∃ z : Nat → Nat → Int64, v_Mo_key1V_zL zM zI zL j y81 y86 = z := ⟨_, rfl⟩
          rw [ezL90] at hSh
          refine lv_aload_n hx hb d_La_law_255 rfl (lv_at hl 3 rfl) ?_
          obtain ⟨_, he91⟩ := zr_M0 hSh
          refine va_calli (va_runV (As := []) (rest := []) ⟨hx, hb, hml, hown, hG⟩ (k_Mo_thrownV l D g ad N0 zG75 zO zX zY zA76 zB zM88 zI89 zL90 zK zN (nI 0) zQ) (aw_wV 0 hG gw_10_27 gw_10_24 gw_0_10 gw_10_25 gw_10_26 rfl rfl hd_Mo_thrown ⟨Nat.le_of_ble_eq_true rfl, Nat.le_of_ble_eq_true rfl⟩) (ag_qV (va_recv hK hP rfl he91) hP hD hSh hU hS) rfl rfl hl.1 rfl (lv_room (Nat.le_of_ble_eq_true rfl)) d_La_law_256 ⟨by omega, by omega⟩) hS (fun _ _ h => h) (fun _ h => h) (fun x92 u8 t8 H locs ht _ ex92 hB _ _ hS => ?_)
          obtain ⟨L, hP, hD, hSh⟩ := hB
          rw [ht] at hP
          clear ht
          have ex92 : x92 = nI 0 := ex92
          subst ex92
          refine lv_iload hx hb d_La_law_259 (lv_at hl 0 rfl) ?_
          refine lv_icmp_eq (tgt := 266) hx hb d_La_law_261 (by decide) (fun _ => ?_) (fun h => absurd (by decide +kernel) h)
          refine lv_goto (tgt := 837) hx hb d_La_law_266 (by decide) ?_
          refine lv_iinc (k := 5) (v := nI (6 * t + 6)) hx hb d_La_law_837 hl rfl (aw_inc (6 * t) 6 6 (by decide +kernel)) (by decide) rfl (fun ls hl => ?_)
          have hl : lv_has ls 8 [(4, .int (nI (6 * t + 6))), (5, .int (nI 0)), (0, .ref b), (1, .ref (aw_r ad 0)), (2, .ref (aw_m ad 0)), (3, .ref (aw_o ad))] := hl
          refine lv_goto (tgt := 23) hx hb d_La_law_840 (by decide) ?_
          have hl := lv_sub hl (l' := [(0, .ref b), (1, .ref (aw_r ad 0)), (2, .ref (aw_m ad 0)), (3, .ref (aw_o ad)), (4, .int (nI (6 * t + 6)))]) [2, 3, 4, 5, 0] rfl
          refine W.widen (k := 85 + (t + 1)) (n := 1246 + 6 * (t + 1)) (by omega) (by omega) ?_
          have hR : az_R zG75 zO zX zY zA76 zB zM88 zI89 zL90 := by
            subst ezL90 ezI89 ezM88 ey86 ey85 ey84 ey83 ey82 ey81 ey80 ey79 ey78 ey77 ezA76 ezG75 ey73 ey72 ey71 ey70 ey69 ey68 ey67 ey66 ey65 ey64
            exact r_key1 hR hj hs
          exact ih (t + 1) zG75 zO zX zY zA76 zB zM88 zI89 zL90 zK zN (nI 0) zQ _ _ L ls (by omega) hP hD hSh hR hS (by first | exact hl | simpa [Nat.mul_add] using hl)
    · refine aw_ti (y := nI 2) (by rw [hs3]) ?_
      refine lv_tableIn (tgt := 269) (off := 229) hx hb d_La_law_40 (by decide +kernel) (by decide +kernel) (by decide +kernel) (by decide) ?_
      obtain ⟨c0, hc0⟩ : ∃ z : Int32, z = xs (6 * t + 1) := ⟨_, rfl⟩
      obtain ⟨k0, hk0⟩ : ∃ z : Int32, z = xs (6 * t + 2) := ⟨_, rfl⟩
      obtain ⟨s3, hs3⟩ : ∃ z : Int32, z = xs (6 * t + 3) := ⟨_, rfl⟩
      obtain ⟨s4, hs4⟩ : ∃ z : Int32, z = xs (6 * t + 4) := ⟨_, rfl⟩
      rcases aw_rng 4 (by decide) c0 with hc | ⟨j, hj, rfl⟩
      · refine lv_aload_n hx hb d_La_law_269 rfl (lv_at hl 1 rfl) ?_
        refine lv_aload_n hx hb d_La_law_270 rfl (lv_at hl 0 rfl) ?_
        refine lv_iload hx hb d_La_law_271 (lv_at hl 4 rfl) ?_
        refine lv_iconst (v := nI 1) hx hb d_La_law_273 (by decide +kernel) ?_
        refine lv_iadd hx hb d_La_law_274 ?_
        refine aw_ti (nI_add (6 * t) 1) ?_
        refine va_sld hx hb hX hbl hbA hS (i := (nI ((6 * t) + 1))) (vp_in_nI (by omega) (by omega)) d_La_law_275 ?_
        refine aw_ti (y := c0) (by rw [nI_clamp (by omega)]; exact hc0.symm) ?_
        refine lv_aload_n hx hb d_La_law_276 rfl (lv_at hl 0 rfl) ?_
        refine lv_iload hx hb d_La_law_277 (lv_at hl 4 rfl) ?_
        refine lv_iconst (v := nI 2) hx hb d_La_law_279 (by decide +kernel) ?_
        refine lv_iadd hx hb d_La_law_280 ?_
        refine aw_ti (nI_add (6 * t) 2) ?_
        refine va_sld hx hb hX hbl hbA hS (i := (nI ((6 * t) + 2))) (vp_in_nI (by omega) (by omega)) d_La_law_281 ?_
        refine aw_ti (y := k0) (by rw [nI_clamp (by omega)]; exact hk0.symm) ?_
        refine lv_aload_n hx hb d_La_law_282 rfl (lv_at hl 0 rfl) ?_
        refine lv_iload hx hb d_La_law_283 (lv_at hl 4 rfl) ?_
        refine lv_iconst (v := nI 3) hx hb d_La_law_285 (by decide +kernel) ?_
        refine lv_iadd hx hb d_La_law_286 ?_
        refine aw_ti (nI_add (6 * t) 3) ?_
        refine va_sld hx hb hX hbl hbA hS (i := (nI ((6 * t) + 3))) (vp_in_nI (by omega) (by omega)) d_La_law_287 ?_
        refine aw_ti (y := s3) (by rw [nI_clamp (by omega)]; exact hs3.symm) ?_
        refine lv_i2l hx hb d_La_law_288 rfl ?_
        refine ag_topl (fun y93 ey93 => ?_)
        refine lv_bipush (v := nI 32) hx hb d_La_law_289 (by decide +kernel) ?_
        refine lv_lshl hx hb d_La_law_291 rfl ?_
        refine ag_topl (fun y94 ey94 => ?_)
        refine lv_aload_n hx hb d_La_law_292 rfl (lv_at hl 0 rfl) ?_
        refine lv_iload hx hb d_La_law_293 (lv_at hl 4 rfl) ?_
        refine lv_iconst (v := nI 4) hx hb d_La_law_295 (by decide +kernel) ?_
        refine lv_iadd hx hb d_La_law_296 ?_
        refine aw_ti (nI_add (6 * t) 4) ?_
        refine va_sld hx hb hX hbl hbA hS (i := (nI ((6 * t) + 4))) (vp_in_nI (by omega) (by omega)) d_La_law_297 ?_
        refine aw_ti (y := s4) (by rw [nI_clamp (by omega)]; exact hs4.symm) ?_
        refine lv_i2l hx hb d_La_law_298 rfl ?_
        refine ag_topl (fun y95 ey95 => ?_)
        refine lv_ldc2 (v := 4294967295) hx hb hown (hG _ gw_13_3) d_La_law_299 ?_
        refine lv_land hx hb d_La_law_302 ?_
        refine ag_topl (fun y96 ey96 => ?_)
        refine lv_lor hx hb d_La_law_303 ?_
        refine ag_topl (fun y97 ey97 => ?_)
        refine va_calli (vx_runSW (As := [.ref (aw_r ad 0), .int c0, .int k0, .long y97]) (rest := []) ⟨hx, hb, hml, hown, hG⟩ (k_La_modeXcV l hst D g ad N0 zG zO zX zY zA zB zM zI zL zK zN zF zQ c0 k0 y97 hc) (aw_wW 4 hG gw_5_23 gw_5_21 gw_0_0 gw_5_22 rfl rfl hd_La_mode ⟨Nat.le_of_ble_eq_true rfl, Nat.le_of_ble_eq_true rfl⟩) (ag_qS hP hD hSh hU hS) rfl rfl hl.1 rfl (lv_room (Nat.le_of_ble_eq_true rfl)) d_La_law_304 ⟨by omega, by omega⟩) hS (fun _ _ h => h) (fun _ h => h) ?_
        clear hP hD hSh hS
        intro x98 u8 t8 H locs ht _ ex98 hB _ _ hS
        obtain ⟨L, hP, hD, hSh⟩ := hB
        rw [ht] at hP
        clear ht
        subst ex98
        refine lv_istore hx hb d_La_law_307 hl (by decide) rfl (fun ls hl => ?_)
        have hl : lv_has ls 8 [(5, .int (nI 1)), (0, .ref b), (1, .ref (aw_r ad 0)), (2, .ref (aw_m ad 0)), (3, .ref (aw_o ad)), (4, .int (nI (6 * t)))] := hl
        refine lv_aload_n hx hb d_La_law_309 rfl (lv_at hl 3 rfl) ?_
        refine lv_aload_n hx hb d_La_law_310 rfl (lv_at hl 1 rfl) ?_
        refine lv_iload hx hb d_La_law_311 (lv_at hl 5 rfl) ?_
        refine lv_iconst (v := nI 1) hx hb d_La_law_313 (by decide +kernel) ?_
        refine lv_iadd hx hb d_La_law_314 ?_
        refine aw_ti (nI_add (6 * t) 1) ?_
        refine va_sld hx hb hX hbl hbA hS (i := (nI ((6 * t) + 1))) (vp_in_nI (by omega) (by omega)) d_La_law_315 ?_
        refine aw_ti (y := c0) (by rw [nI_clamp (by omega)]; exact hc0.symm) ?_
        refine lv_aload_n hx hb d_La_law_316 rfl (lv_at hl 1 rfl) ?_
        refine lv_iload hx hb d_La_law_317 (lv_at hl 5 rfl) ?_
        refine lv_iconst (v := nI 2) hx hb d_La_law_319 (by decide +kernel) ?_
        refine lv_iadd hx hb d_La_law_320 ?_
        refine aw_ti (nI_add (6 * t) 2) ?_
        refine va_sld hx hb hX hbl hbA hS (i := (nI ((6 * t) + 2))) (vp_in_nI (by omega) (by omega)) d_La_law_321 ?_
        refine aw_ti (y := k0) (by rw [nI_clamp (by omega)]; exact hk0.symm) ?_
        refine lv_aload_n hx hb d_La_law_322 rfl (lv_at hl 1 rfl) ?_
        refine lv_iload hx hb d_La_law_323 (lv_at hl 5 rfl) ?_
        refine lv_iconst (v := nI 3) hx hb d_La_law_325 (by decide +kernel) ?_
        refine lv_iadd hx hb d_La_law_326 ?_
        refine aw_ti (nI_add (6 * t) 3) ?_
        refine va_sld hx hb hX hbl hbA hS (i := (nI ((6 * t) + 3))) (vp_in_nI (by omega) (by omega)) d_La_law_327 ?_
        refine aw_ti (y := s3) (by rw [nI_clamp (by omega)]; exact hs3.symm) ?_
        refine lv_i2l hx hb d_La_law_328 rfl ?_
        refine ag_topl (fun y99 ey99 => ?_)
        refine lv_bipush (v := nI 32) hx hb d_La_law_329 (by decide +kernel) ?_
        refine lv_lshl hx hb d_La_law_331 rfl ?_
        refine ag_topl (fun y100 ey100 => ?_)
        refine lv_aload_n hx hb d_La_law_332 rfl (lv_at hl 1 rfl) ?_
        refine lv_iload hx hb d_La_law_333 (lv_at hl 5 rfl) ?_
        refine lv_iconst (v := nI 4) hx hb d_La_law_335 (by decide +kernel) ?_
        refine lv_iadd hx hb d_La_law_336 ?_
        refine aw_ti (nI_add (6 * t) 4) ?_
        refine va_sld hx hb hX hbl hbA hS (i := (nI ((6 * t) + 4))) (vp_in_nI (by omega) (by omega)) d_La_law_337 ?_
        refine aw_ti (y := s4) (by rw [nI_clamp (by omega)]; exact hs4.symm) ?_
        refine lv_i2l hx hb d_La_law_338 rfl ?_
        refine ag_topl (fun y101 ey101 => ?_)
        refine lv_ldc2 (v := 4294967295) hx hb hown (hG _ gw_13_3) d_La_law_339 ?_
        refine lv_land hx hb d_La_law_342 ?_
        refine ag_topl (fun y102 ey102 => ?_)
        refine lv_lor hx hb d_La_law_343 ?_
        refine ag_topl (fun y103 ey103 => ?_)
        obtain ⟨_, he104⟩ := zr_M0 hSh
        refine va_callv (va_runV (As := [.int c0, .int k0, .long y103]) (rest := []) ⟨hx, hb, hml, hown, hG⟩ (k_Mo_modeXcV l D g ad N0 zG zO zX zY zA zB zM zI zL zK zN zF zQ c0 k0 y103 hc) (aw_wV 3 hG gw_10_45 gw_10_42 gw_0_10 gw_10_43 gw_10_44 rfl rfl hd_Mo_mode ⟨Nat.le_of_ble_eq_true rfl, Nat.le_of_ble_eq_true rfl⟩) (ag_qV (va_recv hK hP rfl he104) hP hD hSh hU hS) rfl rfl hl.1 rfl (lv_room (Nat.le_of_ble_eq_true rfl)) d_La_law_344 ⟨by omega, by omega⟩) hS (fun _ _ h => h) (fun _ h => h) ?_
        clear hP hD hSh hS he104
        intro u8 t8 H locs ht _ _ hB _ _ hS
        obtain ⟨L, hP, hD, hSh⟩ := hB
        rw [ht] at hP
        clear ht
        refine lv_goto (tgt := 837) hx hb d_La_law_347 (by decide) ?_
        refine lv_iinc (k := 5) (v := nI (6 * t + 6)) hx hb d_La_law_837 hl rfl (aw_inc (6 * t) 6 6 (by decide +kernel)) (by decide) rfl (fun ls hl => ?_)
        have hl : lv_has ls 8 [(4, .int (nI (6 * t + 6))), (5, .int (nI 1)), (0, .ref b), (1, .ref (aw_r ad 0)), (2, .ref (aw_m ad 0)), (3, .ref (aw_o ad))] := hl
        refine lv_goto (tgt := 23) hx hb d_La_law_840 (by decide) ?_
        have hl := lv_sub hl (l' := [(0, .ref b), (1, .ref (aw_r ad 0)), (2, .ref (aw_m ad 0)), (3, .ref (aw_o ad)), (4, .int (nI (6 * t + 6)))]) [2, 3, 4, 5, 0] rfl
        refine W.widen (k := 85 + (t + 1)) (n := 1246 + 6 * (t + 1)) (by omega) (by omega) ?_
        exact ih (t + 1) zG zO zX zY zA zB zM zI zL zK zN (nI 1) zQ _ _ L ls (by omega) hP hD hSh hR hS (by first | exact hl | simpa [Nat.mul_add] using hl)
      · have hgj := hSh.2.2.2.2.1 j hj
        have hq1 : (zM j).1 = (zG j).1 := by rw [hR.1 j hj]
        have hq2 : (zM j).2 = (zG j).2 := by rw [hR.1 j hj]
        rcases aw_ovr 5 (by decide) k0 with hk | ⟨k, hk, rfl⟩
        · refine lv_aload_n hx hb d_La_law_269 rfl (lv_at hl 1 rfl) ?_
          refine lv_aload_n hx hb d_La_law_270 rfl (lv_at hl 0 rfl) ?_
          refine lv_iload hx hb d_La_law_271 (lv_at hl 4 rfl) ?_
          refine lv_iconst (v := nI 1) hx hb d_La_law_273 (by decide +kernel) ?_
          refine lv_iadd hx hb d_La_law_274 ?_
          refine aw_ti (nI_add (6 * t) 1) ?_
          refine va_sld hx hb hX hbl hbA hS (i := (nI ((6 * t) + 1))) (vp_in_nI (by omega) (by omega)) d_La_law_275 ?_
          refine aw_ti (y := nI j) (by rw [nI_clamp (by omega)]; exact hc0.symm) ?_
          refine lv_aload_n hx hb d_La_law_276 rfl (lv_at hl 0 rfl) ?_
          refine lv_iload hx hb d_La_law_277 (lv_at hl 4 rfl) ?_
          refine lv_iconst (v := nI 2) hx hb d_La_law_279 (by decide +kernel) ?_
          refine lv_iadd hx hb d_La_law_280 ?_
          refine aw_ti (nI_add (6 * t) 2) ?_
          refine va_sld hx hb hX hbl hbA hS (i := (nI ((6 * t) + 2))) (vp_in_nI (by omega) (by omega)) d_La_law_281 ?_
          refine aw_ti (y := k0) (by rw [nI_clamp (by omega)]; exact hk0.symm) ?_
          refine lv_aload_n hx hb d_La_law_282 rfl (lv_at hl 0 rfl) ?_
          refine lv_iload hx hb d_La_law_283 (lv_at hl 4 rfl) ?_
          refine lv_iconst (v := nI 3) hx hb d_La_law_285 (by decide +kernel) ?_
          refine lv_iadd hx hb d_La_law_286 ?_
          refine aw_ti (nI_add (6 * t) 3) ?_
          refine va_sld hx hb hX hbl hbA hS (i := (nI ((6 * t) + 3))) (vp_in_nI (by omega) (by omega)) d_La_law_287 ?_
          refine aw_ti (y := s3) (by rw [nI_clamp (by omega)]; exact hs3.symm) ?_
          refine lv_i2l hx hb d_La_law_288 rfl ?_
          refine ag_topl (fun y105 ey105 => ?_)
          refine lv_bipush (v := nI 32) hx hb d_La_law_289 (by decide +kernel) ?_
          refine lv_lshl hx hb d_La_law_291 rfl ?_
          refine ag_topl (fun y106 ey106 => ?_)
          refine lv_aload_n hx hb d_La_law_292 rfl (lv_at hl 0 rfl) ?_
          refine lv_iload hx hb d_La_law_293 (lv_at hl 4 rfl) ?_
          refine lv_iconst (v := nI 4) hx hb d_La_law_295 (by decide +kernel) ?_
          refine lv_iadd hx hb d_La_law_296 ?_
          refine aw_ti (nI_add (6 * t) 4) ?_
          refine va_sld hx hb hX hbl hbA hS (i := (nI ((6 * t) + 4))) (vp_in_nI (by omega) (by omega)) d_La_law_297 ?_
          refine aw_ti (y := s4) (by rw [nI_clamp (by omega)]; exact hs4.symm) ?_
          refine lv_i2l hx hb d_La_law_298 rfl ?_
          refine ag_topl (fun y107 ey107 => ?_)
          refine lv_ldc2 (v := 4294967295) hx hb hown (hG _ gw_13_3) d_La_law_299 ?_
          refine lv_land hx hb d_La_law_302 ?_
          refine ag_topl (fun y108 ey108 => ?_)
          refine lv_lor hx hb d_La_law_303 ?_
          refine ag_topl (fun y109 ey109 => ?_)
          refine va_calli (vx_runSW (As := [.ref (aw_r ad 0), .int (nI j), .int k0, .long y109]) (rest := []) ⟨hx, hb, hml, hown, hG⟩ (k_La_modeXaV l hst D g ad N0 zG zO zX zY zA zB zM zI zL zK zN zF zQ j k0 y109 hj hk) (aw_wW 4 hG gw_5_23 gw_5_21 gw_0_0 gw_5_22 rfl rfl hd_La_mode ⟨Nat.le_of_ble_eq_true rfl, Nat.le_of_ble_eq_true rfl⟩) (ag_qS hP hD hSh hU hS) rfl rfl hl.1 rfl (lv_room (Nat.le_of_ble_eq_true rfl)) d_La_law_304 ⟨by omega, by omega⟩) hS (fun _ _ h => h) (fun _ h => h) ?_
          clear hP hD hSh hS
          intro x110 u8 t8 H locs ht _ ex110 hB _ _ hS
          obtain ⟨L, hP, hD, hSh⟩ := hB
          rw [ht] at hP
          clear ht
          subst ex110
          refine lv_istore hx hb d_La_law_307 hl (by decide) rfl (fun ls hl => ?_)
          have hl : lv_has ls 8 [(5, .int (nI 2)), (0, .ref b), (1, .ref (aw_r ad 0)), (2, .ref (aw_m ad 0)), (3, .ref (aw_o ad)), (4, .int (nI (6 * t)))] := hl
          refine lv_aload_n hx hb d_La_law_309 rfl (lv_at hl 3 rfl) ?_
          refine lv_aload_n hx hb d_La_law_310 rfl (lv_at hl 1 rfl) ?_
          refine lv_iload hx hb d_La_law_311 (lv_at hl 5 rfl) ?_
          refine lv_iconst (v := nI 1) hx hb d_La_law_313 (by decide +kernel) ?_
          refine lv_iadd hx hb d_La_law_314 ?_
          refine aw_ti (nI_add (6 * t) 1) ?_
          refine va_sld hx hb hX hbl hbA hS (i := (nI ((6 * t) + 1))) (vp_in_nI (by omega) (by omega)) d_La_law_315 ?_
          refine aw_ti (y := nI j) (by rw [nI_clamp (by omega)]; exact hc0.symm) ?_
          refine lv_aload_n hx hb d_La_law_316 rfl (lv_at hl 1 rfl) ?_
          refine lv_iload hx hb d_La_law_317 (lv_at hl 5 rfl) ?_
          refine lv_iconst (v := nI 2) hx hb d_La_law_319 (by decide +kernel) ?_
          refine lv_iadd hx hb d_La_law_320 ?_
          refine aw_ti (nI_add (6 * t) 2) ?_
          refine va_sld hx hb hX hbl hbA hS (i := (nI ((6 * t) + 2))) (vp_in_nI (by omega) (by omega)) d_La_law_321 ?_
          refine aw_ti (y := k0) (by rw [nI_clamp (by omega)]; exact hk0.symm) ?_
          refine lv_aload_n hx hb d_La_law_322 rfl (lv_at hl 1 rfl) ?_
          refine lv_iload hx hb d_La_law_323 (lv_at hl 5 rfl) ?_
          refine lv_iconst (v := nI 3) hx hb d_La_law_325 (by decide +kernel) ?_
          refine lv_iadd hx hb d_La_law_326 ?_
          refine aw_ti (nI_add (6 * t) 3) ?_
          refine va_sld hx hb hX hbl hbA hS (i := (nI ((6 * t) + 3))) (vp_in_nI (by omega) (by omega)) d_La_law_327 ?_
          refine aw_ti (y := s3) (by rw [nI_clamp (by omega)]; exact hs3.symm) ?_
          refine lv_i2l hx hb d_La_law_328 rfl ?_
          refine ag_topl (fun y111 ey111 => ?_)
          refine lv_bipush (v := nI 32) hx hb d_La_law_329 (by decide +kernel) ?_
          refine lv_lshl hx hb d_La_law_331 rfl ?_
          refine ag_topl (fun y112 ey112 => ?_)
          refine lv_aload_n hx hb d_La_law_332 rfl (lv_at hl 1 rfl) ?_
          refine lv_iload hx hb d_La_law_333 (lv_at hl 5 rfl) ?_
          refine lv_iconst (v := nI 4) hx hb d_La_law_335 (by decide +kernel) ?_
          refine lv_iadd hx hb d_La_law_336 ?_
          refine aw_ti (nI_add (6 * t) 4) ?_
          refine va_sld hx hb hX hbl hbA hS (i := (nI ((6 * t) + 4))) (vp_in_nI (by omega) (by omega)) d_La_law_337 ?_
          refine aw_ti (y := s4) (by rw [nI_clamp (by omega)]; exact hs4.symm) ?_
          refine lv_i2l hx hb d_La_law_338 rfl ?_
          refine ag_topl (fun y113 ey113 => ?_)
          refine lv_ldc2 (v := 4294967295) hx hb hown (hG _ gw_13_3) d_La_law_339 ?_
          refine lv_land hx hb d_La_law_342 ?_
          refine ag_topl (fun y114 ey114 => ?_)
          refine lv_lor hx hb d_La_law_343 ?_
          refine ag_topl (fun y115 ey115 => ?_)
          obtain ⟨_, he116⟩ := zr_M0 hSh
          refine va_callv (va_runV (As := [.int (nI j), .int k0, .long y115]) (rest := []) ⟨hx, hb, hml, hown, hG⟩ (k_Mo_modeXaV l D g ad N0 zG zO zX zY zA zB zM zI zL zK zN zF zQ j k0 y115 hj hk) (aw_wV 3 hG gw_10_45 gw_10_42 gw_0_10 gw_10_43 gw_10_44 rfl rfl hd_Mo_mode ⟨Nat.le_of_ble_eq_true rfl, Nat.le_of_ble_eq_true rfl⟩) (ag_qV (va_recv hK hP rfl he116) hP hD hSh hU hS) rfl rfl hl.1 rfl (lv_room (Nat.le_of_ble_eq_true rfl)) d_La_law_344 ⟨by omega, by omega⟩) hS (fun _ _ h => h) (fun _ h => h) ?_
          clear hP hD hSh hS he116
          intro u8 t8 H locs ht _ _ hB _ _ hS
          obtain ⟨L, hP, hD, hSh⟩ := hB
          rw [ht] at hP
          clear ht
          refine lv_goto (tgt := 837) hx hb d_La_law_347 (by decide) ?_
          refine lv_iinc (k := 5) (v := nI (6 * t + 6)) hx hb d_La_law_837 hl rfl (aw_inc (6 * t) 6 6 (by decide +kernel)) (by decide) rfl (fun ls hl => ?_)
          have hl : lv_has ls 8 [(4, .int (nI (6 * t + 6))), (5, .int (nI 2)), (0, .ref b), (1, .ref (aw_r ad 0)), (2, .ref (aw_m ad 0)), (3, .ref (aw_o ad))] := hl
          refine lv_goto (tgt := 23) hx hb d_La_law_840 (by decide) ?_
          have hl := lv_sub hl (l' := [(0, .ref b), (1, .ref (aw_r ad 0)), (2, .ref (aw_m ad 0)), (3, .ref (aw_o ad)), (4, .int (nI (6 * t + 6)))]) [2, 3, 4, 5, 0] rfl
          refine W.widen (k := 85 + (t + 1)) (n := 1246 + 6 * (t + 1)) (by omega) (by omega) ?_
          exact ih (t + 1) zG zO zX zY zA zB zM zI zL zK zN (nI 2) zQ _ _ L ls (by omega) hP hD hSh hR hS (by first | exact hl | simpa [Nat.mul_add] using hl)
        · by_cases hs : 2 ≤ (zG j).1
          · refine lv_aload_n hx hb d_La_law_269 rfl (lv_at hl 1 rfl) ?_
            refine lv_aload_n hx hb d_La_law_270 rfl (lv_at hl 0 rfl) ?_
            refine lv_iload hx hb d_La_law_271 (lv_at hl 4 rfl) ?_
            refine lv_iconst (v := nI 1) hx hb d_La_law_273 (by decide +kernel) ?_
            refine lv_iadd hx hb d_La_law_274 ?_
            refine aw_ti (nI_add (6 * t) 1) ?_
            refine va_sld hx hb hX hbl hbA hS (i := (nI ((6 * t) + 1))) (vp_in_nI (by omega) (by omega)) d_La_law_275 ?_
            refine aw_ti (y := nI j) (by rw [nI_clamp (by omega)]; exact hc0.symm) ?_
            refine lv_aload_n hx hb d_La_law_276 rfl (lv_at hl 0 rfl) ?_
            refine lv_iload hx hb d_La_law_277 (lv_at hl 4 rfl) ?_
            refine lv_iconst (v := nI 2) hx hb d_La_law_279 (by decide +kernel) ?_
            refine lv_iadd hx hb d_La_law_280 ?_
            refine aw_ti (nI_add (6 * t) 2) ?_
            refine va_sld hx hb hX hbl hbA hS (i := (nI ((6 * t) + 2))) (vp_in_nI (by omega) (by omega)) d_La_law_281 ?_
            refine aw_ti (y := nI k) (by rw [nI_clamp (by omega)]; exact hk0.symm) ?_
            refine lv_aload_n hx hb d_La_law_282 rfl (lv_at hl 0 rfl) ?_
            refine lv_iload hx hb d_La_law_283 (lv_at hl 4 rfl) ?_
            refine lv_iconst (v := nI 3) hx hb d_La_law_285 (by decide +kernel) ?_
            refine lv_iadd hx hb d_La_law_286 ?_
            refine aw_ti (nI_add (6 * t) 3) ?_
            refine va_sld hx hb hX hbl hbA hS (i := (nI ((6 * t) + 3))) (vp_in_nI (by omega) (by omega)) d_La_law_287 ?_
            refine aw_ti (y := s3) (by rw [nI_clamp (by omega)]; exact hs3.symm) ?_
            refine lv_i2l hx hb d_La_law_288 rfl ?_
            refine ag_topl (fun y117 ey117 => ?_)
            refine lv_bipush (v := nI 32) hx hb d_La_law_289 (by decide +kernel) ?_
            refine lv_lshl hx hb d_La_law_291 rfl ?_
            refine ag_topl (fun y118 ey118 => ?_)
            refine lv_aload_n hx hb d_La_law_292 rfl (lv_at hl 0 rfl) ?_
            refine lv_iload hx hb d_La_law_293 (lv_at hl 4 rfl) ?_
            refine lv_iconst (v := nI 4) hx hb d_La_law_295 (by decide +kernel) ?_
            refine lv_iadd hx hb d_La_law_296 ?_
            refine aw_ti (nI_add (6 * t) 4) ?_
            refine va_sld hx hb hX hbl hbA hS (i := (nI ((6 * t) + 4))) (vp_in_nI (by omega) (by omega)) d_La_law_297 ?_
            refine aw_ti (y := s4) (by rw [nI_clamp (by omega)]; exact hs4.symm) ?_
            refine lv_i2l hx hb d_La_law_298 rfl ?_
            refine ag_topl (fun y119 ey119 => ?_)
            refine lv_ldc2 (v := 4294967295) hx hb hown (hG _ gw_13_3) d_La_law_299 ?_
            refine lv_land hx hb d_La_law_302 ?_
            refine ag_topl (fun y120 ey120 => ?_)
            refine lv_lor hx hb d_La_law_303 ?_
            refine ag_topl (fun y121 ey121 => ?_)
            refine va_calli (vx_runSW (As := [.ref (aw_r ad 0), .int (nI j), .int (nI k), .long y121]) (rest := []) ⟨hx, hb, hml, hown, hG⟩ (k_La_mode1V l hst D g ad N0 zG zO zX zY zA zB zM zI zL zK zN zF zQ j k y121 hj (by omega) (by omega)) (aw_wW 4 hG gw_5_23 gw_5_21 gw_0_0 gw_5_22 rfl rfl hd_La_mode ⟨Nat.le_of_ble_eq_true rfl, Nat.le_of_ble_eq_true rfl⟩) (ag_qS hP hD hSh hU hS) rfl rfl hl.1 rfl (lv_room (Nat.le_of_ble_eq_true rfl)) d_La_law_304 ⟨by omega, by omega⟩) hS (fun _ _ h => h) (fun _ h => h) ?_
            clear hP hD hSh hS
            intro x122 u8 t8 H locs ht _ ex122 hB _ _ hS
            obtain ⟨L, hP, hD, hSh⟩ := hB
            rw [ht] at hP
            clear ht
            subst ex122
            obtain ⟨zG123, ezG123⟩ : ∃ z : Nat → Nat × Nat, v_La_mode1V_zG zG zX zY j k y121 = z := ⟨_, rfl⟩
            rw [ezG123] at hSh
            obtain ⟨zX124, ezX124⟩ : ∃ z : Nat → Nat → Int64, v_La_mode1V_zX zG zX zY j k y121 = z := ⟨_, rfl⟩
            rw [ezX124] at hSh
            obtain ⟨zY125, ezY125⟩ : ∃ z : Nat → Nat → Int32, v_La_mode1V_zY zG zX zY j k y121 = z := ⟨_, rfl⟩
            rw [ezY125] at hSh
            refine lv_istore hx hb d_La_law_307 hl (by decide) rfl (fun ls hl => ?_)
            have hl : lv_has ls 8 [(5, .int (nI 0)), (0, .ref b), (1, .ref (aw_r ad 0)), (2, .ref (aw_m ad 0)), (3, .ref (aw_o ad)), (4, .int (nI (6 * t)))] := hl
            refine lv_aload_n hx hb d_La_law_309 rfl (lv_at hl 3 rfl) ?_
            refine lv_aload_n hx hb d_La_law_310 rfl (lv_at hl 1 rfl) ?_
            refine lv_iload hx hb d_La_law_311 (lv_at hl 5 rfl) ?_
            refine lv_iconst (v := nI 1) hx hb d_La_law_313 (by decide +kernel) ?_
            refine lv_iadd hx hb d_La_law_314 ?_
            refine aw_ti (nI_add (6 * t) 1) ?_
            refine va_sld hx hb hX hbl hbA hS (i := (nI ((6 * t) + 1))) (vp_in_nI (by omega) (by omega)) d_La_law_315 ?_
            refine aw_ti (y := nI j) (by rw [nI_clamp (by omega)]; exact hc0.symm) ?_
            refine lv_aload_n hx hb d_La_law_316 rfl (lv_at hl 1 rfl) ?_
            refine lv_iload hx hb d_La_law_317 (lv_at hl 5 rfl) ?_
            refine lv_iconst (v := nI 2) hx hb d_La_law_319 (by decide +kernel) ?_
            refine lv_iadd hx hb d_La_law_320 ?_
            refine aw_ti (nI_add (6 * t) 2) ?_
            refine va_sld hx hb hX hbl hbA hS (i := (nI ((6 * t) + 2))) (vp_in_nI (by omega) (by omega)) d_La_law_321 ?_
            refine aw_ti (y := nI k) (by rw [nI_clamp (by omega)]; exact hk0.symm) ?_
            refine lv_aload_n hx hb d_La_law_322 rfl (lv_at hl 1 rfl) ?_
            refine lv_iload hx hb d_La_law_323 (lv_at hl 5 rfl) ?_
            refine lv_iconst (v := nI 3) hx hb d_La_law_325 (by decide +kernel) ?_
            refine lv_iadd hx hb d_La_law_326 ?_
            refine aw_ti (nI_add (6 * t) 3) ?_
            refine va_sld hx hb hX hbl hbA hS (i := (nI ((6 * t) + 3))) (vp_in_nI (by omega) (by omega)) d_La_law_327 ?_
            refine aw_ti (y := s3) (by rw [nI_clamp (by omega)]; exact hs3.symm) ?_
            refine lv_i2l hx hb d_La_law_328 rfl ?_
            refine ag_topl (fun y126 ey126 => ?_)
            refine lv_bipush (v := nI 32) hx hb d_La_law_329 (by decide +kernel) ?_
            refine lv_lshl hx hb d_La_law_331 rfl ?_
            refine ag_topl (fun y127 ey127 => ?_)
            refine lv_aload_n hx hb d_La_law_332 rfl (lv_at hl 1 rfl) ?_
            refine lv_iload hx hb d_La_law_333 (lv_at hl 5 rfl) ?_
            refine lv_iconst (v := nI 4) hx hb d_La_law_335 (by decide +kernel) ?_
            refine lv_iadd hx hb d_La_law_336 ?_
            refine aw_ti (nI_add (6 * t) 4) ?_
            refine va_sld hx hb hX hbl hbA hS (i := (nI ((6 * t) + 4))) (vp_in_nI (by omega) (by omega)) d_La_law_337 ?_
            refine aw_ti (y := s4) (by rw [nI_clamp (by omega)]; exact hs4.symm) ?_
            refine lv_i2l hx hb d_La_law_338 rfl ?_
            refine ag_topl (fun y128 ey128 => ?_)
            refine lv_ldc2 (v := 4294967295) hx hb hown (hG _ gw_13_3) d_La_law_339 ?_
            refine lv_land hx hb d_La_law_342 ?_
            refine ag_topl (fun y129 ey129 => ?_)
            refine lv_lor hx hb d_La_law_343 ?_
            refine ag_topl (fun y130 ey130 => ?_)
            obtain ⟨_, he131⟩ := zr_M0 hSh
            refine va_callv (va_runV (As := [.int (nI j), .int (nI k), .long y130]) (rest := []) ⟨hx, hb, hml, hown, hG⟩ (k_Mo_mode1V l D g ad N0 zG123 zO zX124 zY125 zA zB zM zI zL zK zN zF zQ j k y130 hj (by omega) (by omega)) (aw_wV 3 hG gw_10_45 gw_10_42 gw_0_10 gw_10_43 gw_10_44 rfl rfl hd_Mo_mode ⟨Nat.le_of_ble_eq_true rfl, Nat.le_of_ble_eq_true rfl⟩) (ag_qV (va_recv hK hP rfl he131) hP hD hSh hU hS) rfl rfl hl.1 rfl (lv_room (Nat.le_of_ble_eq_true rfl)) d_La_law_344 ⟨by omega, by omega⟩) hS (fun _ _ h => h) (fun _ h => h) ?_
            clear hP hD hSh hS he131
            intro u8 t8 H locs ht _ _ hB _ _ hS
            obtain ⟨L, hP, hD, hSh⟩ := hB
            rw [ht] at hP
            clear ht
            obtain ⟨zM132, ezM132⟩ : ∃ z : Nat → Nat × Nat, v_Mo_mode1V_zM zM zI zL j k y130 = z := ⟨_, rfl⟩
            rw [ezM132] at hSh
            obtain ⟨zI133, ezI133⟩ : ∃ z : Nat → Nat → Int32, v_Mo_mode1V_zI zM zI zL j k y130 = z := ⟨_, rfl⟩
            rw [ezI133] at hSh
            obtain ⟨zL134, ezL134⟩ : ∃ z : Nat → Nat → Int64, v_Mo_mode1V_zL zM zI zL j k y130 = z := ⟨_, rfl⟩
            rw [ezL134] at hSh
            refine lv_goto (tgt := 837) hx hb d_La_law_347 (by decide) ?_
            refine lv_iinc (k := 5) (v := nI (6 * t + 6)) hx hb d_La_law_837 hl rfl (aw_inc (6 * t) 6 6 (by decide +kernel)) (by decide) rfl (fun ls hl => ?_)
            have hl : lv_has ls 8 [(4, .int (nI (6 * t + 6))), (5, .int (nI 0)), (0, .ref b), (1, .ref (aw_r ad 0)), (2, .ref (aw_m ad 0)), (3, .ref (aw_o ad))] := hl
            refine lv_goto (tgt := 23) hx hb d_La_law_840 (by decide) ?_
            have hl := lv_sub hl (l' := [(0, .ref b), (1, .ref (aw_r ad 0)), (2, .ref (aw_m ad 0)), (3, .ref (aw_o ad)), (4, .int (nI (6 * t + 6)))]) [2, 3, 4, 5, 0] rfl
            refine W.widen (k := 85 + (t + 1)) (n := 1246 + 6 * (t + 1)) (by omega) (by omega) ?_
            have hR : az_R zG123 zO zX124 zY125 zA zB zM132 zI133 zL134 := by
              subst ezL134 ezI133 ezM132 ey130 ey129 ey128 ey127 ey126 ezY125 ezX124 ezG123 ey121 ey120 ey119 ey118 ey117
              exact r_mode1 hR hj hk hs
            exact ih (t + 1) zG123 zO zX124 zY125 zA zB zM132 zI133 zL134 zK zN (nI 0) zQ _ _ L ls (by omega) hP hD hSh hR hS (by first | exact hl | simpa [Nat.mul_add] using hl)
          · refine lv_aload_n hx hb d_La_law_269 rfl (lv_at hl 1 rfl) ?_
            refine lv_aload_n hx hb d_La_law_270 rfl (lv_at hl 0 rfl) ?_
            refine lv_iload hx hb d_La_law_271 (lv_at hl 4 rfl) ?_
            refine lv_iconst (v := nI 1) hx hb d_La_law_273 (by decide +kernel) ?_
            refine lv_iadd hx hb d_La_law_274 ?_
            refine aw_ti (nI_add (6 * t) 1) ?_
            refine va_sld hx hb hX hbl hbA hS (i := (nI ((6 * t) + 1))) (vp_in_nI (by omega) (by omega)) d_La_law_275 ?_
            refine aw_ti (y := nI j) (by rw [nI_clamp (by omega)]; exact hc0.symm) ?_
            refine lv_aload_n hx hb d_La_law_276 rfl (lv_at hl 0 rfl) ?_
            refine lv_iload hx hb d_La_law_277 (lv_at hl 4 rfl) ?_
            refine lv_iconst (v := nI 2) hx hb d_La_law_279 (by decide +kernel) ?_
            refine lv_iadd hx hb d_La_law_280 ?_
            refine aw_ti (nI_add (6 * t) 2) ?_
            refine va_sld hx hb hX hbl hbA hS (i := (nI ((6 * t) + 2))) (vp_in_nI (by omega) (by omega)) d_La_law_281 ?_
            refine aw_ti (y := nI k) (by rw [nI_clamp (by omega)]; exact hk0.symm) ?_
            refine lv_aload_n hx hb d_La_law_282 rfl (lv_at hl 0 rfl) ?_
            refine lv_iload hx hb d_La_law_283 (lv_at hl 4 rfl) ?_
            refine lv_iconst (v := nI 3) hx hb d_La_law_285 (by decide +kernel) ?_
            refine lv_iadd hx hb d_La_law_286 ?_
            refine aw_ti (nI_add (6 * t) 3) ?_
            refine va_sld hx hb hX hbl hbA hS (i := (nI ((6 * t) + 3))) (vp_in_nI (by omega) (by omega)) d_La_law_287 ?_
            refine aw_ti (y := s3) (by rw [nI_clamp (by omega)]; exact hs3.symm) ?_
            refine lv_i2l hx hb d_La_law_288 rfl ?_
            refine ag_topl (fun y135 ey135 => ?_)
            refine lv_bipush (v := nI 32) hx hb d_La_law_289 (by decide +kernel) ?_
            refine lv_lshl hx hb d_La_law_291 rfl ?_
            refine ag_topl (fun y136 ey136 => ?_)
            refine lv_aload_n hx hb d_La_law_292 rfl (lv_at hl 0 rfl) ?_
            refine lv_iload hx hb d_La_law_293 (lv_at hl 4 rfl) ?_
            refine lv_iconst (v := nI 4) hx hb d_La_law_295 (by decide +kernel) ?_
            refine lv_iadd hx hb d_La_law_296 ?_
            refine aw_ti (nI_add (6 * t) 4) ?_
            refine va_sld hx hb hX hbl hbA hS (i := (nI ((6 * t) + 4))) (vp_in_nI (by omega) (by omega)) d_La_law_297 ?_
            refine aw_ti (y := s4) (by rw [nI_clamp (by omega)]; exact hs4.symm) ?_
            refine lv_i2l hx hb d_La_law_298 rfl ?_
            refine ag_topl (fun y137 ey137 => ?_)
            refine lv_ldc2 (v := 4294967295) hx hb hown (hG _ gw_13_3) d_La_law_299 ?_
            refine lv_land hx hb d_La_law_302 ?_
            refine ag_topl (fun y138 ey138 => ?_)
            refine lv_lor hx hb d_La_law_303 ?_
            refine ag_topl (fun y139 ey139 => ?_)
            refine va_calli (vx_runSW (As := [.ref (aw_r ad 0), .int (nI j), .int (nI k), .long y139]) (rest := []) ⟨hx, hb, hml, hown, hG⟩ (k_La_modeXsV l hst D g ad N0 zG zO zX zY zA zB zM zI zL zK zN zF zQ j k y139 hj (by omega) (by omega)) (aw_wW 4 hG gw_5_23 gw_5_21 gw_0_0 gw_5_22 rfl rfl hd_La_mode ⟨Nat.le_of_ble_eq_true rfl, Nat.le_of_ble_eq_true rfl⟩) (ag_qS hP hD hSh hU hS) rfl rfl hl.1 rfl (lv_room (Nat.le_of_ble_eq_true rfl)) d_La_law_304 ⟨by omega, by omega⟩) hS (fun _ _ h => h) (fun _ h => h) ?_
            clear hP hD hSh hS
            intro x140 u8 t8 H locs ht _ ex140 hB _ _ hS
            obtain ⟨L, hP, hD, hSh⟩ := hB
            rw [ht] at hP
            clear ht
            subst ex140
            refine lv_istore hx hb d_La_law_307 hl (by decide) rfl (fun ls hl => ?_)
            have hl : lv_has ls 8 [(5, .int (nI 3)), (0, .ref b), (1, .ref (aw_r ad 0)), (2, .ref (aw_m ad 0)), (3, .ref (aw_o ad)), (4, .int (nI (6 * t)))] := hl
            refine lv_aload_n hx hb d_La_law_309 rfl (lv_at hl 3 rfl) ?_
            refine lv_aload_n hx hb d_La_law_310 rfl (lv_at hl 1 rfl) ?_
            refine lv_iload hx hb d_La_law_311 (lv_at hl 5 rfl) ?_
            refine lv_iconst (v := nI 1) hx hb d_La_law_313 (by decide +kernel) ?_
            refine lv_iadd hx hb d_La_law_314 ?_
            refine aw_ti (nI_add (6 * t) 1) ?_
            refine va_sld hx hb hX hbl hbA hS (i := (nI ((6 * t) + 1))) (vp_in_nI (by omega) (by omega)) d_La_law_315 ?_
            refine aw_ti (y := nI j) (by rw [nI_clamp (by omega)]; exact hc0.symm) ?_
            refine lv_aload_n hx hb d_La_law_316 rfl (lv_at hl 1 rfl) ?_
            refine lv_iload hx hb d_La_law_317 (lv_at hl 5 rfl) ?_
            refine lv_iconst (v := nI 2) hx hb d_La_law_319 (by decide +kernel) ?_
            refine lv_iadd hx hb d_La_law_320 ?_
            refine aw_ti (nI_add (6 * t) 2) ?_
            refine va_sld hx hb hX hbl hbA hS (i := (nI ((6 * t) + 2))) (vp_in_nI (by omega) (by omega)) d_La_law_321 ?_
            refine aw_ti (y := nI k) (by rw [nI_clamp (by omega)]; exact hk0.symm) ?_
            refine lv_aload_n hx hb d_La_law_322 rfl (lv_at hl 1 rfl) ?_
            refine lv_iload hx hb d_La_law_323 (lv_at hl 5 rfl) ?_
            refine lv_iconst (v := nI 3) hx hb d_La_law_325 (by decide +kernel) ?_
            refine lv_iadd hx hb d_La_law_326 ?_
            refine aw_ti (nI_add (6 * t) 3) ?_
            refine va_sld hx hb hX hbl hbA hS (i := (nI ((6 * t) + 3))) (vp_in_nI (by omega) (by omega)) d_La_law_327 ?_
            refine aw_ti (y := s3) (by rw [nI_clamp (by omega)]; exact hs3.symm) ?_
            refine lv_i2l hx hb d_La_law_328 rfl ?_
            refine ag_topl (fun y141 ey141 => ?_)
            refine lv_bipush (v := nI 32) hx hb d_La_law_329 (by decide +kernel) ?_
            refine lv_lshl hx hb d_La_law_331 rfl ?_
            refine ag_topl (fun y142 ey142 => ?_)
            refine lv_aload_n hx hb d_La_law_332 rfl (lv_at hl 1 rfl) ?_
            refine lv_iload hx hb d_La_law_333 (lv_at hl 5 rfl) ?_
            refine lv_iconst (v := nI 4) hx hb d_La_law_335 (by decide +kernel) ?_
            refine lv_iadd hx hb d_La_law_336 ?_
            refine aw_ti (nI_add (6 * t) 4) ?_
            refine va_sld hx hb hX hbl hbA hS (i := (nI ((6 * t) + 4))) (vp_in_nI (by omega) (by omega)) d_La_law_337 ?_
            refine aw_ti (y := s4) (by rw [nI_clamp (by omega)]; exact hs4.symm) ?_
            refine lv_i2l hx hb d_La_law_338 rfl ?_
            refine ag_topl (fun y143 ey143 => ?_)
            refine lv_ldc2 (v := 4294967295) hx hb hown (hG _ gw_13_3) d_La_law_339 ?_
            refine lv_land hx hb d_La_law_342 ?_
            refine ag_topl (fun y144 ey144 => ?_)
            refine lv_lor hx hb d_La_law_343 ?_
            refine ag_topl (fun y145 ey145 => ?_)
            obtain ⟨_, he146⟩ := zr_M0 hSh
            refine va_callv (va_runV (As := [.int (nI j), .int (nI k), .long y145]) (rest := []) ⟨hx, hb, hml, hown, hG⟩ (k_Mo_modeXsV l D g ad N0 zG zO zX zY zA zB zM zI zL zK zN zF zQ j k y145 hj (by omega) (by omega)) (aw_wV 3 hG gw_10_45 gw_10_42 gw_0_10 gw_10_43 gw_10_44 rfl rfl hd_Mo_mode ⟨Nat.le_of_ble_eq_true rfl, Nat.le_of_ble_eq_true rfl⟩) (ag_qV (va_recv hK hP rfl he146) hP hD hSh hU hS) rfl rfl hl.1 rfl (lv_room (Nat.le_of_ble_eq_true rfl)) d_La_law_344 ⟨by omega, by omega⟩) hS (fun _ _ h => h) (fun _ h => h) ?_
            clear hP hD hSh hS he146
            intro u8 t8 H locs ht _ _ hB _ _ hS
            obtain ⟨L, hP, hD, hSh⟩ := hB
            rw [ht] at hP
            clear ht
            refine lv_goto (tgt := 837) hx hb d_La_law_347 (by decide) ?_
            refine lv_iinc (k := 5) (v := nI (6 * t + 6)) hx hb d_La_law_837 hl rfl (aw_inc (6 * t) 6 6 (by decide +kernel)) (by decide) rfl (fun ls hl => ?_)
            have hl : lv_has ls 8 [(4, .int (nI (6 * t + 6))), (5, .int (nI 3)), (0, .ref b), (1, .ref (aw_r ad 0)), (2, .ref (aw_m ad 0)), (3, .ref (aw_o ad))] := hl
            refine lv_goto (tgt := 23) hx hb d_La_law_840 (by decide) ?_
            have hl := lv_sub hl (l' := [(0, .ref b), (1, .ref (aw_r ad 0)), (2, .ref (aw_m ad 0)), (3, .ref (aw_o ad)), (4, .int (nI (6 * t + 6)))]) [2, 3, 4, 5, 0] rfl
            refine W.widen (k := 85 + (t + 1)) (n := 1246 + 6 * (t + 1)) (by omega) (by omega) ?_
            exact ih (t + 1) zG zO zX zY zA zB zM zI zL zK zN (nI 3) zQ _ _ L ls (by omega) hP hD hSh hR hS (by first | exact hl | simpa [Nat.mul_add] using hl)
    · refine aw_ti (y := nI 3) (by rw [hs3]) ?_
      refine lv_tableIn (tgt := 350) (off := 310) hx hb d_La_law_40 (by decide +kernel) (by decide +kernel) (by decide +kernel) (by decide) ?_
      obtain ⟨c0, hc0⟩ : ∃ z : Int32, z = xs (6 * t + 1) := ⟨_, rfl⟩
      rcases aw_rng 4 (by decide) c0 with hc | ⟨j, hj, rfl⟩
      · refine lv_aload_n hx hb d_La_law_350 rfl (lv_at hl 1 rfl) ?_
        refine lv_aload_n hx hb d_La_law_351 rfl (lv_at hl 0 rfl) ?_
        refine lv_iload hx hb d_La_law_352 (lv_at hl 4 rfl) ?_
        refine lv_iconst (v := nI 1) hx hb d_La_law_354 (by decide +kernel) ?_
        refine lv_iadd hx hb d_La_law_355 ?_
        refine aw_ti (nI_add (6 * t) 1) ?_
        refine va_sld hx hb hX hbl hbA hS (i := (nI ((6 * t) + 1))) (vp_in_nI (by omega) (by omega)) d_La_law_356 ?_
        refine aw_ti (y := c0) (by rw [nI_clamp (by omega)]; exact hc0.symm) ?_
        refine va_calli (vx_runSW (As := [.ref (aw_r ad 0), .int c0]) (rest := []) ⟨hx, hb, hml, hown, hG⟩ (k_La_freeXcV l hst D g ad N0 zG zO zX zY zA zB zM zI zL zK zN zF zQ c0 hc) (aw_wW 2 hG gw_5_41 gw_5_39 gw_0_0 gw_5_40 rfl rfl hd_La_free ⟨Nat.le_of_ble_eq_true rfl, Nat.le_of_ble_eq_true rfl⟩) (ag_qS hP hD hSh hU hS) rfl rfl hl.1 rfl (lv_room (Nat.le_of_ble_eq_true rfl)) d_La_law_357 ⟨by omega, by omega⟩) hS (fun _ _ h => h) (fun _ h => h) ?_
        clear hP hD hSh hS
        intro x147 u8 t8 H locs ht _ ex147 hB _ _ hS
        obtain ⟨L, hP, hD, hSh⟩ := hB
        rw [ht] at hP
        clear ht
        subst ex147
        refine lv_istore hx hb d_La_law_360 hl (by decide) rfl (fun ls hl => ?_)
        have hl : lv_has ls 8 [(5, .int (nI 1)), (0, .ref b), (1, .ref (aw_r ad 0)), (2, .ref (aw_m ad 0)), (3, .ref (aw_o ad)), (4, .int (nI (6 * t)))] := hl
        refine lv_aload_n hx hb d_La_law_362 rfl (lv_at hl 3 rfl) ?_
        refine lv_aload_n hx hb d_La_law_363 rfl (lv_at hl 1 rfl) ?_
        refine lv_iload hx hb d_La_law_364 (lv_at hl 5 rfl) ?_
        refine lv_iconst (v := nI 1) hx hb d_La_law_366 (by decide +kernel) ?_
        refine lv_iadd hx hb d_La_law_367 ?_
        refine aw_ti (nI_add (6 * t) 1) ?_
        refine va_sld hx hb hX hbl hbA hS (i := (nI ((6 * t) + 1))) (vp_in_nI (by omega) (by omega)) d_La_law_368 ?_
        refine aw_ti (y := c0) (by rw [nI_clamp (by omega)]; exact hc0.symm) ?_
        obtain ⟨_, he148⟩ := zr_M0 hSh
        refine va_callv (va_runV (As := [.int c0]) (rest := []) ⟨hx, hb, hml, hown, hG⟩ (k_Mo_freeXcV l D g ad N0 zG zO zX zY zA zB zM zI zL zK zN zF zQ c0 hc) (aw_wV 1 hG gw_10_55 gw_10_52 gw_0_10 gw_10_53 gw_10_54 rfl rfl hd_Mo_free ⟨Nat.le_of_ble_eq_true rfl, Nat.le_of_ble_eq_true rfl⟩) (ag_qV (va_recv hK hP rfl he148) hP hD hSh hU hS) rfl rfl hl.1 rfl (lv_room (Nat.le_of_ble_eq_true rfl)) d_La_law_369 ⟨by omega, by omega⟩) hS (fun _ _ h => h) (fun _ h => h) ?_
        clear hP hD hSh hS he148
        intro u8 t8 H locs ht _ _ hB _ _ hS
        obtain ⟨L, hP, hD, hSh⟩ := hB
        rw [ht] at hP
        clear ht
        refine lv_goto (tgt := 837) hx hb d_La_law_372 (by decide) ?_
        refine lv_iinc (k := 5) (v := nI (6 * t + 6)) hx hb d_La_law_837 hl rfl (aw_inc (6 * t) 6 6 (by decide +kernel)) (by decide) rfl (fun ls hl => ?_)
        have hl : lv_has ls 8 [(4, .int (nI (6 * t + 6))), (5, .int (nI 1)), (0, .ref b), (1, .ref (aw_r ad 0)), (2, .ref (aw_m ad 0)), (3, .ref (aw_o ad))] := hl
        refine lv_goto (tgt := 23) hx hb d_La_law_840 (by decide) ?_
        have hl := lv_sub hl (l' := [(0, .ref b), (1, .ref (aw_r ad 0)), (2, .ref (aw_m ad 0)), (3, .ref (aw_o ad)), (4, .int (nI (6 * t + 6)))]) [2, 3, 4, 5, 0] rfl
        refine W.widen (k := 85 + (t + 1)) (n := 1246 + 6 * (t + 1)) (by omega) (by omega) ?_
        exact ih (t + 1) zG zO zX zY zA zB zM zI zL zK zN (nI 1) zQ _ _ L ls (by omega) hP hD hSh hR hS (by first | exact hl | simpa [Nat.mul_add] using hl)
      · have hgj := hSh.2.2.2.2.1 j hj
        have hq1 : (zM j).1 = (zG j).1 := by rw [hR.1 j hj]
        have hq2 : (zM j).2 = (zG j).2 := by rw [hR.1 j hj]
        refine lv_aload_n hx hb d_La_law_350 rfl (lv_at hl 1 rfl) ?_
        refine lv_aload_n hx hb d_La_law_351 rfl (lv_at hl 0 rfl) ?_
        refine lv_iload hx hb d_La_law_352 (lv_at hl 4 rfl) ?_
        refine lv_iconst (v := nI 1) hx hb d_La_law_354 (by decide +kernel) ?_
        refine lv_iadd hx hb d_La_law_355 ?_
        refine aw_ti (nI_add (6 * t) 1) ?_
        refine va_sld hx hb hX hbl hbA hS (i := (nI ((6 * t) + 1))) (vp_in_nI (by omega) (by omega)) d_La_law_356 ?_
        refine aw_ti (y := nI j) (by rw [nI_clamp (by omega)]; exact hc0.symm) ?_
        refine va_calli (vx_runSW (As := [.ref (aw_r ad 0), .int (nI j)]) (rest := []) ⟨hx, hb, hml, hown, hG⟩ (k_La_free1V l hst D g ad N0 zG zO zX zY zA zB zM zI zL zK zN zF zQ j hj) (aw_wW 2 hG gw_5_41 gw_5_39 gw_0_0 gw_5_40 rfl rfl hd_La_free ⟨Nat.le_of_ble_eq_true rfl, Nat.le_of_ble_eq_true rfl⟩) (ag_qS hP hD hSh hU hS) rfl rfl hl.1 rfl (lv_room (Nat.le_of_ble_eq_true rfl)) d_La_law_357 ⟨by omega, by omega⟩) hS (fun _ _ h => h) (fun _ h => h) ?_
        clear hP hD hSh hS
        intro x149 u8 t8 H locs ht _ ex149 hB _ _ hS
        obtain ⟨L, hP, hD, hSh⟩ := hB
        rw [ht] at hP
        clear ht
        subst ex149
        obtain ⟨zG150, ezG150⟩ : ∃ z : Nat → Nat × Nat, v_La_free1V_zG zG j = z := ⟨_, rfl⟩
        rw [ezG150] at hSh
        refine lv_istore hx hb d_La_law_360 hl (by decide) rfl (fun ls hl => ?_)
        have hl : lv_has ls 8 [(5, .int (nI 0)), (0, .ref b), (1, .ref (aw_r ad 0)), (2, .ref (aw_m ad 0)), (3, .ref (aw_o ad)), (4, .int (nI (6 * t)))] := hl
        refine lv_aload_n hx hb d_La_law_362 rfl (lv_at hl 3 rfl) ?_
        refine lv_aload_n hx hb d_La_law_363 rfl (lv_at hl 1 rfl) ?_
        refine lv_iload hx hb d_La_law_364 (lv_at hl 5 rfl) ?_
        refine lv_iconst (v := nI 1) hx hb d_La_law_366 (by decide +kernel) ?_
        refine lv_iadd hx hb d_La_law_367 ?_
        refine aw_ti (nI_add (6 * t) 1) ?_
        refine va_sld hx hb hX hbl hbA hS (i := (nI ((6 * t) + 1))) (vp_in_nI (by omega) (by omega)) d_La_law_368 ?_
        refine aw_ti (y := nI j) (by rw [nI_clamp (by omega)]; exact hc0.symm) ?_
        obtain ⟨_, he151⟩ := zr_M0 hSh
        refine va_callv (va_runV (As := [.int (nI j)]) (rest := []) ⟨hx, hb, hml, hown, hG⟩ (k_Mo_free1V l D g ad N0 zG150 zO zX zY zA zB zM zI zL zK zN zF zQ j hj) (aw_wV 1 hG gw_10_55 gw_10_52 gw_0_10 gw_10_53 gw_10_54 rfl rfl hd_Mo_free ⟨Nat.le_of_ble_eq_true rfl, Nat.le_of_ble_eq_true rfl⟩) (ag_qV (va_recv hK hP rfl he151) hP hD hSh hU hS) rfl rfl hl.1 rfl (lv_room (Nat.le_of_ble_eq_true rfl)) d_La_law_369 ⟨by omega, by omega⟩) hS (fun _ _ h => h) (fun _ h => h) ?_
        clear hP hD hSh hS he151
        intro u8 t8 H locs ht _ _ hB _ _ hS
        obtain ⟨L, hP, hD, hSh⟩ := hB
        rw [ht] at hP
        clear ht
        obtain ⟨zM152, ezM152⟩ : ∃ z : Nat → Nat × Nat, v_Mo_free1V_zM zM zI j = z := ⟨_, rfl⟩
        rw [ezM152] at hSh
        obtain ⟨zI153, ezI153⟩ : ∃ z : Nat → Nat → Int32, v_Mo_free1V_zI zM zI j = z := ⟨_, rfl⟩
        rw [ezI153] at hSh
        refine lv_goto (tgt := 837) hx hb d_La_law_372 (by decide) ?_
        refine lv_iinc (k := 5) (v := nI (6 * t + 6)) hx hb d_La_law_837 hl rfl (aw_inc (6 * t) 6 6 (by decide +kernel)) (by decide) rfl (fun ls hl => ?_)
        have hl : lv_has ls 8 [(4, .int (nI (6 * t + 6))), (5, .int (nI 0)), (0, .ref b), (1, .ref (aw_r ad 0)), (2, .ref (aw_m ad 0)), (3, .ref (aw_o ad))] := hl
        refine lv_goto (tgt := 23) hx hb d_La_law_840 (by decide) ?_
        have hl := lv_sub hl (l' := [(0, .ref b), (1, .ref (aw_r ad 0)), (2, .ref (aw_m ad 0)), (3, .ref (aw_o ad)), (4, .int (nI (6 * t + 6)))]) [2, 3, 4, 5, 0] rfl
        refine W.widen (k := 85 + (t + 1)) (n := 1246 + 6 * (t + 1)) (by omega) (by omega) ?_
        have hR : az_R zG150 zO zX zY zA zB zM152 zI153 zL := by
          subst ezI153 ezM152 ezG150
          exact r_free1 hR hj
        exact ih (t + 1) zG150 zO zX zY zA zB zM152 zI153 zL zK zN (nI 0) zQ _ _ L ls (by omega) hP hD hSh hR hS (by first | exact hl | simpa [Nat.mul_add] using hl)
    · refine aw_ti (y := nI 4) (by rw [hs3]) ?_
      refine lv_tableIn (tgt := 375) (off := 335) hx hb d_La_law_40 (by decide +kernel) (by decide +kernel) (by decide +kernel) (by decide) ?_
      obtain ⟨c0, hc0⟩ : ∃ z : Int32, z = xs (6 * t + 1) := ⟨_, rfl⟩
      rcases aw_rng 4 (by decide) c0 with hc | ⟨j, hj, rfl⟩
      · refine lv_aload_n hx hb d_La_law_375 rfl (lv_at hl 1 rfl) ?_
        refine lv_aload_n hx hb d_La_law_376 rfl (lv_at hl 0 rfl) ?_
        refine lv_iload hx hb d_La_law_377 (lv_at hl 4 rfl) ?_
        refine lv_iconst (v := nI 1) hx hb d_La_law_379 (by decide +kernel) ?_
        refine lv_iadd hx hb d_La_law_380 ?_
        refine aw_ti (nI_add (6 * t) 1) ?_
        refine va_sld hx hb hX hbl hbA hS (i := (nI ((6 * t) + 1))) (vp_in_nI (by omega) (by omega)) d_La_law_381 ?_
        refine aw_ti (y := c0) (by rw [nI_clamp (by omega)]; exact hc0.symm) ?_
        refine lv_aload_n hx hb d_La_law_382 rfl (lv_at hl 3 rfl) ?_
        refine va_calli (vx_runSW (As := [.ref (aw_r ad 0), .int c0, .ref (aw_o ad)]) (rest := []) ⟨hx, hb, hml, hown, hG⟩ (k_La_stageXcV l hst D g ad N0 zG zO zX zY zA zB zM zI zL zK zN zF zQ c0 hc) (aw_wW 3 hG gw_5_48 gw_5_46 gw_0_0 gw_5_47 rfl rfl hd_La_stage ⟨Nat.le_of_ble_eq_true rfl, Nat.le_of_ble_eq_true rfl⟩) (ag_qS hP hD hSh hU hS) rfl rfl hl.1 rfl (lv_room (Nat.le_of_ble_eq_true rfl)) d_La_law_383 ⟨by omega, by omega⟩) hS (fun _ _ h => h) (fun _ h => h) ?_
        clear hP hD hSh hS
        intro x154 u8 t8 H locs ht _ ex154 hB _ _ hS
        obtain ⟨L, hP, hD, hSh⟩ := hB
        rw [ht] at hP
        clear ht
        subst ex154
        refine lv_istore hx hb d_La_law_386 hl (by decide) rfl (fun ls hl => ?_)
        have hl : lv_has ls 8 [(5, .int (nI 1)), (0, .ref b), (1, .ref (aw_r ad 0)), (2, .ref (aw_m ad 0)), (3, .ref (aw_o ad)), (4, .int (nI (6 * t)))] := hl
        refine lv_aload_n hx hb d_La_law_388 rfl (lv_at hl 3 rfl) ?_
        refine lv_aload_n hx hb d_La_law_389 rfl (lv_at hl 1 rfl) ?_
        refine lv_iload hx hb d_La_law_390 (lv_at hl 5 rfl) ?_
        refine lv_iconst (v := nI 1) hx hb d_La_law_392 (by decide +kernel) ?_
        refine lv_iadd hx hb d_La_law_393 ?_
        refine aw_ti (nI_add (6 * t) 1) ?_
        refine va_sld hx hb hX hbl hbA hS (i := (nI ((6 * t) + 1))) (vp_in_nI (by omega) (by omega)) d_La_law_394 ?_
        refine aw_ti (y := c0) (by rw [nI_clamp (by omega)]; exact hc0.symm) ?_
        obtain ⟨_, he155⟩ := zr_M0 hSh
        refine va_calli (va_runV (As := [.int c0]) (rest := []) ⟨hx, hb, hml, hown, hG⟩ (k_Mo_stageXcV l D g ad N0 zG zO zX zY zA zB zM zI zL zK zN zF zQ c0 hc) (aw_wV 1 hG gw_10_59 gw_10_56 gw_0_10 gw_10_57 gw_10_58 rfl rfl hd_Mo_stage ⟨Nat.le_of_ble_eq_true rfl, Nat.le_of_ble_eq_true rfl⟩) (ag_qV (va_recv hK hP rfl he155) hP hD hSh hU hS) rfl rfl hl.1 rfl (lv_room (Nat.le_of_ble_eq_true rfl)) d_La_law_395 ⟨by omega, by omega⟩) hS (fun _ _ h => h) (fun _ h => h) ?_
        clear hP hD hSh hS he155
        intro x156 u8 t8 H locs ht _ ex156 hB _ _ hS
        obtain ⟨L, hP, hD, hSh⟩ := hB
        rw [ht] at hP
        clear ht
        have ex156 := ex156.symm
        refine lv_istore hx hb d_La_law_398 hl (by decide) rfl (fun ls hl => ?_)
        have hl : lv_has ls 8 [(6, .int x156), (5, .int (nI 1)), (0, .ref b), (1, .ref (aw_r ad 0)), (2, .ref (aw_m ad 0)), (3, .ref (aw_o ad)), (4, .int (nI (6 * t)))] := hl
        refine lv_goto (tgt := 837) hx hb d_La_law_400 (by decide) ?_
        refine lv_iinc (k := 6) (v := nI (6 * t + 6)) hx hb d_La_law_837 hl rfl (aw_inc (6 * t) 6 6 (by decide +kernel)) (by decide) rfl (fun ls hl => ?_)
        have hl : lv_has ls 8 [(4, .int (nI (6 * t + 6))), (6, .int x156), (5, .int (nI 1)), (0, .ref b), (1, .ref (aw_r ad 0)), (2, .ref (aw_m ad 0)), (3, .ref (aw_o ad))] := hl
        refine lv_goto (tgt := 23) hx hb d_La_law_840 (by decide) ?_
        have hl := lv_sub hl (l' := [(0, .ref b), (1, .ref (aw_r ad 0)), (2, .ref (aw_m ad 0)), (3, .ref (aw_o ad)), (4, .int (nI (6 * t + 6)))]) [3, 4, 5, 6, 0] rfl
        refine W.widen (k := 85 + (t + 1)) (n := 1246 + 6 * (t + 1)) (by omega) (by omega) ?_
        exact ih (t + 1) zG zO zX zY zA zB zM zI zL zK zN (nI 1) zQ _ _ L ls (by omega) hP hD hSh hR hS (by first | exact hl | simpa [Nat.mul_add] using hl)
      · have hgj := hSh.2.2.2.2.1 j hj
        have hq1 : (zM j).1 = (zG j).1 := by rw [hR.1 j hj]
        have hq2 : (zM j).2 = (zG j).2 := by rw [hR.1 j hj]
        refine lv_aload_n hx hb d_La_law_375 rfl (lv_at hl 1 rfl) ?_
        refine lv_aload_n hx hb d_La_law_376 rfl (lv_at hl 0 rfl) ?_
        refine lv_iload hx hb d_La_law_377 (lv_at hl 4 rfl) ?_
        refine lv_iconst (v := nI 1) hx hb d_La_law_379 (by decide +kernel) ?_
        refine lv_iadd hx hb d_La_law_380 ?_
        refine aw_ti (nI_add (6 * t) 1) ?_
        refine va_sld hx hb hX hbl hbA hS (i := (nI ((6 * t) + 1))) (vp_in_nI (by omega) (by omega)) d_La_law_381 ?_
        refine aw_ti (y := nI j) (by rw [nI_clamp (by omega)]; exact hc0.symm) ?_
        refine lv_aload_n hx hb d_La_law_382 rfl (lv_at hl 3 rfl) ?_
        refine va_calli (vx_runSW (As := [.ref (aw_r ad 0), .int (nI j), .ref (aw_o ad)]) (rest := []) ⟨hx, hb, hml, hown, hG⟩ (k_La_stage1V l hst D g ad N0 zG zO zX zY zA zB zM zI zL zK zN zF zQ j hj) (aw_wW 3 hG gw_5_48 gw_5_46 gw_0_0 gw_5_47 rfl rfl hd_La_stage ⟨Nat.le_of_ble_eq_true rfl, Nat.le_of_ble_eq_true rfl⟩) (ag_qS hP hD hSh hU hS) rfl rfl hl.1 rfl (lv_room (Nat.le_of_ble_eq_true rfl)) d_La_law_383 ⟨by omega, by omega⟩) hS (fun _ _ h => h) (fun _ h => h) ?_
        clear hP hD hSh hS
        intro x157 u8 t8 H locs ht _ ex157 hB _ _ hS
        obtain ⟨L, hP, hD, hSh⟩ := hB
        rw [ht] at hP
        clear ht
        subst ex157
        obtain ⟨zQ158, ezQ158⟩ : ∃ z : Int64, v_La_stage1V_zQ zG j = z := ⟨_, rfl⟩
        rw [ezQ158] at hSh
        refine lv_istore hx hb d_La_law_386 hl (by decide) rfl (fun ls hl => ?_)
        have hl : lv_has ls 8 [(5, .int (nI 0)), (0, .ref b), (1, .ref (aw_r ad 0)), (2, .ref (aw_m ad 0)), (3, .ref (aw_o ad)), (4, .int (nI (6 * t)))] := hl
        refine lv_aload_n hx hb d_La_law_388 rfl (lv_at hl 3 rfl) ?_
        refine lv_aload_n hx hb d_La_law_389 rfl (lv_at hl 1 rfl) ?_
        refine lv_iload hx hb d_La_law_390 (lv_at hl 5 rfl) ?_
        refine lv_iconst (v := nI 1) hx hb d_La_law_392 (by decide +kernel) ?_
        refine lv_iadd hx hb d_La_law_393 ?_
        refine aw_ti (nI_add (6 * t) 1) ?_
        refine va_sld hx hb hX hbl hbA hS (i := (nI ((6 * t) + 1))) (vp_in_nI (by omega) (by omega)) d_La_law_394 ?_
        refine aw_ti (y := nI j) (by rw [nI_clamp (by omega)]; exact hc0.symm) ?_
        obtain ⟨_, he159⟩ := zr_M0 hSh
        refine va_calli (va_runV (As := [.int (nI j)]) (rest := []) ⟨hx, hb, hml, hown, hG⟩ (k_Mo_stage1V l D g ad N0 zG zO zX zY zA zB zM zI zL zK zN zF zQ158 j hj) (aw_wV 1 hG gw_10_59 gw_10_56 gw_0_10 gw_10_57 gw_10_58 rfl rfl hd_Mo_stage ⟨Nat.le_of_ble_eq_true rfl, Nat.le_of_ble_eq_true rfl⟩) (ag_qV (va_recv hK hP rfl he159) hP hD hSh hU hS) rfl rfl hl.1 rfl (lv_room (Nat.le_of_ble_eq_true rfl)) d_La_law_395 ⟨by omega, by omega⟩) hS (fun _ _ h => h) (fun _ h => h) ?_
        clear hP hD hSh hS he159
        intro x160 u8 t8 H locs ht _ ex160 hB _ _ hS
        obtain ⟨L, hP, hD, hSh⟩ := hB
        rw [ht] at hP
        clear ht
        have ex160 := ex160.symm
        refine lv_istore hx hb d_La_law_398 hl (by decide) rfl (fun ls hl => ?_)
        have hl : lv_has ls 8 [(6, .int x160), (5, .int (nI 0)), (0, .ref b), (1, .ref (aw_r ad 0)), (2, .ref (aw_m ad 0)), (3, .ref (aw_o ad)), (4, .int (nI (6 * t)))] := hl
        refine lv_goto (tgt := 837) hx hb d_La_law_400 (by decide) ?_
        refine lv_iinc (k := 6) (v := nI (6 * t + 6)) hx hb d_La_law_837 hl rfl (aw_inc (6 * t) 6 6 (by decide +kernel)) (by decide) rfl (fun ls hl => ?_)
        have hl : lv_has ls 8 [(4, .int (nI (6 * t + 6))), (6, .int x160), (5, .int (nI 0)), (0, .ref b), (1, .ref (aw_r ad 0)), (2, .ref (aw_m ad 0)), (3, .ref (aw_o ad))] := hl
        refine lv_goto (tgt := 23) hx hb d_La_law_840 (by decide) ?_
        have hl := lv_sub hl (l' := [(0, .ref b), (1, .ref (aw_r ad 0)), (2, .ref (aw_m ad 0)), (3, .ref (aw_o ad)), (4, .int (nI (6 * t + 6)))]) [3, 4, 5, 6, 0] rfl
        refine W.widen (k := 85 + (t + 1)) (n := 1246 + 6 * (t + 1)) (by omega) (by omega) ?_
        exact ih (t + 1) zG zO zX zY zA zB zM zI zL zK zN (nI 0) zQ158 _ _ L ls (by omega) hP hD hSh hR hS (by first | exact hl | simpa [Nat.mul_add] using hl)
    · refine aw_ti (y := nI 5) (by rw [hs3]) ?_
      refine lv_tableIn (tgt := 403) (off := 363) hx hb d_La_law_40 (by decide +kernel) (by decide +kernel) (by decide +kernel) (by decide) ?_
      obtain ⟨c0, hc0⟩ : ∃ z : Int32, z = xs (6 * t + 1) := ⟨_, rfl⟩
      obtain ⟨s2, hs2⟩ : ∃ z : Int32, z = xs (6 * t + 2) := ⟨_, rfl⟩
      obtain ⟨s3, hs3⟩ : ∃ z : Int32, z = xs (6 * t + 3) := ⟨_, rfl⟩
      obtain ⟨s4, hs4⟩ : ∃ z : Int32, z = xs (6 * t + 4) := ⟨_, rfl⟩
      rcases aw_rng 4 (by decide) c0 with hc | ⟨j, hj, rfl⟩
      · refine lv_aload_n hx hb d_La_law_403 rfl (lv_at hl 1 rfl) ?_
        refine lv_aload_n hx hb d_La_law_404 rfl (lv_at hl 0 rfl) ?_
        refine lv_iload hx hb d_La_law_405 (lv_at hl 4 rfl) ?_
        refine lv_iconst (v := nI 1) hx hb d_La_law_407 (by decide +kernel) ?_
        refine lv_iadd hx hb d_La_law_408 ?_
        refine aw_ti (nI_add (6 * t) 1) ?_
        refine va_sld hx hb hX hbl hbA hS (i := (nI ((6 * t) + 1))) (vp_in_nI (by omega) (by omega)) d_La_law_409 ?_
        refine aw_ti (y := c0) (by rw [nI_clamp (by omega)]; exact hc0.symm) ?_
        refine lv_aload_n hx hb d_La_law_410 rfl (lv_at hl 0 rfl) ?_
        refine lv_iload hx hb d_La_law_411 (lv_at hl 4 rfl) ?_
        refine lv_iconst (v := nI 2) hx hb d_La_law_413 (by decide +kernel) ?_
        refine lv_iadd hx hb d_La_law_414 ?_
        refine aw_ti (nI_add (6 * t) 2) ?_
        refine va_sld hx hb hX hbl hbA hS (i := (nI ((6 * t) + 2))) (vp_in_nI (by omega) (by omega)) d_La_law_415 ?_
        refine aw_ti (y := s2) (by rw [nI_clamp (by omega)]; exact hs2.symm) ?_
        have hj161 : ∀ x162 : Int32, (if s2 = 0 then nI 0 else nI 1) = x162 → W p l e room_1 s m #[Value.ref b] below meth c H locs (85 + t) (1246 + 6 * t) (lw_Z below #[Value.ref b] s) (F0 m 424 ls [.int x162, .int c0, .ref (aw_r ad 0)]) := by
          intro x162 ebx162
          refine lv_aload_n hx hb d_La_law_424 rfl (lv_at hl 0 rfl) ?_
          refine lv_iload hx hb d_La_law_425 (lv_at hl 4 rfl) ?_
          refine lv_iconst (v := nI 3) hx hb d_La_law_427 (by decide +kernel) ?_
          refine lv_iadd hx hb d_La_law_428 ?_
          refine aw_ti (nI_add (6 * t) 3) ?_
          refine va_sld hx hb hX hbl hbA hS (i := (nI ((6 * t) + 3))) (vp_in_nI (by omega) (by omega)) d_La_law_429 ?_
          refine aw_ti (y := s3) (by rw [nI_clamp (by omega)]; exact hs3.symm) ?_
          refine lv_i2l hx hb d_La_law_430 rfl ?_
          refine ag_topl (fun y163 ey163 => ?_)
          refine lv_bipush (v := nI 32) hx hb d_La_law_431 (by decide +kernel) ?_
          refine lv_lshl hx hb d_La_law_433 rfl ?_
          refine ag_topl (fun y164 ey164 => ?_)
          refine lv_aload_n hx hb d_La_law_434 rfl (lv_at hl 0 rfl) ?_
          refine lv_iload hx hb d_La_law_435 (lv_at hl 4 rfl) ?_
          refine lv_iconst (v := nI 4) hx hb d_La_law_437 (by decide +kernel) ?_
          refine lv_iadd hx hb d_La_law_438 ?_
          refine aw_ti (nI_add (6 * t) 4) ?_
          refine va_sld hx hb hX hbl hbA hS (i := (nI ((6 * t) + 4))) (vp_in_nI (by omega) (by omega)) d_La_law_439 ?_
          refine aw_ti (y := s4) (by rw [nI_clamp (by omega)]; exact hs4.symm) ?_
          refine lv_i2l hx hb d_La_law_440 rfl ?_
          refine ag_topl (fun y165 ey165 => ?_)
          refine lv_ldc2 (v := 4294967295) hx hb hown (hG _ gw_13_3) d_La_law_441 ?_
          refine lv_land hx hb d_La_law_444 ?_
          refine ag_topl (fun y166 ey166 => ?_)
          refine lv_lor hx hb d_La_law_445 ?_
          refine ag_topl (fun y167 ey167 => ?_)
          refine lv_aload_n hx hb d_La_law_446 rfl (lv_at hl 3 rfl) ?_
          refine va_calli (vx_runSW (As := [.ref (aw_r ad 0), .int c0, .int x162, .long y167, .ref (aw_o ad)]) (rest := []) ⟨hx, hb, hml, hown, hG⟩ (k_La_blockXcV l hst D g ad N0 zG zO zX zY zA zB zM zI zL zK zN zF zQ c0 x162 y167 hc) (aw_wW 5 hG gw_5_55 gw_5_53 gw_0_0 gw_5_54 rfl rfl hd_La_block ⟨Nat.le_of_ble_eq_true rfl, Nat.le_of_ble_eq_true rfl⟩) (ag_qS hP hD hSh hU hS) rfl rfl hl.1 rfl (lv_room (Nat.le_of_ble_eq_true rfl)) d_La_law_447 ⟨by omega, by omega⟩) hS (fun _ _ h => h) (fun _ h => h) ?_
          clear hP hD hSh hS
          intro x168 u8 t8 H locs ht _ ex168 hB _ _ hS
          obtain ⟨L, hP, hD, hSh⟩ := hB
          rw [ht] at hP
          clear ht
          subst ex168
          refine lv_istore hx hb d_La_law_450 hl (by decide) rfl (fun ls hl => ?_)
          have hl : lv_has ls 8 [(5, .int (nI 1)), (0, .ref b), (1, .ref (aw_r ad 0)), (2, .ref (aw_m ad 0)), (3, .ref (aw_o ad)), (4, .int (nI (6 * t)))] := hl
          refine lv_aload_n hx hb d_La_law_452 rfl (lv_at hl 3 rfl) ?_
          refine lv_aload_n hx hb d_La_law_453 rfl (lv_at hl 1 rfl) ?_
          refine lv_iload hx hb d_La_law_454 (lv_at hl 5 rfl) ?_
          refine lv_iconst (v := nI 1) hx hb d_La_law_456 (by decide +kernel) ?_
          refine lv_iadd hx hb d_La_law_457 ?_
          refine aw_ti (nI_add (6 * t) 1) ?_
          refine va_sld hx hb hX hbl hbA hS (i := (nI ((6 * t) + 1))) (vp_in_nI (by omega) (by omega)) d_La_law_458 ?_
          refine aw_ti (y := c0) (by rw [nI_clamp (by omega)]; exact hc0.symm) ?_
          refine lv_aload_n hx hb d_La_law_459 rfl (lv_at hl 1 rfl) ?_
          refine lv_iload hx hb d_La_law_460 (lv_at hl 5 rfl) ?_
          refine lv_iconst (v := nI 2) hx hb d_La_law_462 (by decide +kernel) ?_
          refine lv_iadd hx hb d_La_law_463 ?_
          refine aw_ti (nI_add (6 * t) 2) ?_
          refine va_sld hx hb hX hbl hbA hS (i := (nI ((6 * t) + 2))) (vp_in_nI (by omega) (by omega)) d_La_law_464 ?_
          refine aw_ti (y := s2) (by rw [nI_clamp (by omega)]; exact hs2.symm) ?_
          have hj169 : ∀ x170 : Int32, (if s2 = 0 then nI 0 else nI 1) = x170 → W p l e room_1 s m #[Value.ref b] below meth c H locs ((85 + t) + 1) ((1246 + 6 * t) + 6) (lw_Z below #[Value.ref b] s) (F0 m 473 ls [.int x170, .int c0, .ref (aw_m ad 0)]) := by
            intro x170 ebx170
            refine lv_aload_n hx hb d_La_law_473 rfl (lv_at hl 1 rfl) ?_
            refine lv_iload hx hb d_La_law_474 (lv_at hl 5 rfl) ?_
            refine lv_iconst (v := nI 3) hx hb d_La_law_476 (by decide +kernel) ?_
            refine lv_iadd hx hb d_La_law_477 ?_
            refine aw_ti (nI_add (6 * t) 3) ?_
            refine va_sld hx hb hX hbl hbA hS (i := (nI ((6 * t) + 3))) (vp_in_nI (by omega) (by omega)) d_La_law_478 ?_
            refine aw_ti (y := s3) (by rw [nI_clamp (by omega)]; exact hs3.symm) ?_
            refine lv_i2l hx hb d_La_law_479 rfl ?_
            refine ag_topl (fun y171 ey171 => ?_)
            refine lv_bipush (v := nI 32) hx hb d_La_law_480 (by decide +kernel) ?_
            refine lv_lshl hx hb d_La_law_482 rfl ?_
            refine ag_topl (fun y172 ey172 => ?_)
            refine lv_aload_n hx hb d_La_law_483 rfl (lv_at hl 1 rfl) ?_
            refine lv_iload hx hb d_La_law_484 (lv_at hl 5 rfl) ?_
            refine lv_iconst (v := nI 4) hx hb d_La_law_486 (by decide +kernel) ?_
            refine lv_iadd hx hb d_La_law_487 ?_
            refine aw_ti (nI_add (6 * t) 4) ?_
            refine va_sld hx hb hX hbl hbA hS (i := (nI ((6 * t) + 4))) (vp_in_nI (by omega) (by omega)) d_La_law_488 ?_
            refine aw_ti (y := s4) (by rw [nI_clamp (by omega)]; exact hs4.symm) ?_
            refine lv_i2l hx hb d_La_law_489 rfl ?_
            refine ag_topl (fun y173 ey173 => ?_)
            refine lv_ldc2 (v := 4294967295) hx hb hown (hG _ gw_13_3) d_La_law_490 ?_
            refine lv_land hx hb d_La_law_493 ?_
            refine ag_topl (fun y174 ey174 => ?_)
            refine lv_lor hx hb d_La_law_494 ?_
            refine ag_topl (fun y175 ey175 => ?_)
            obtain ⟨_, he176⟩ := zr_M0 hSh
            refine va_calll (va_runV (As := [.int c0, .int x170, .long y175]) (rest := []) ⟨hx, hb, hml, hown, hG⟩ (k_Mo_blockXcV l D g ad N0 zG zO zX zY zA zB zM zI zL zK zN zF zQ c0 x170 y175 hc) (aw_wV 3 hG gw_11_3 gw_11_0 gw_0_10 gw_11_1 gw_11_2 rfl rfl hd_Mo_block ⟨Nat.le_of_ble_eq_true rfl, Nat.le_of_ble_eq_true rfl⟩) (ag_qV (va_recv hK hP rfl he176) hP hD hSh hU hS) rfl rfl hl.1 rfl (lv_room (Nat.le_of_ble_eq_true rfl)) d_La_law_495 ⟨by omega, by omega⟩) hS (fun _ _ h => h) (fun _ h => h) ?_
            clear hP hD hSh hS he176
            intro y177 u8 t8 H locs ht _ ey177 hB _ _ hS
            obtain ⟨L, hP, hD, hSh⟩ := hB
            rw [ht] at hP
            clear ht
            have ey177 := ey177.symm
            refine lv_lstore hx hb d_La_law_498 hl (by decide) rfl (fun ls hl => ?_)
            have hl : lv_has ls 8 [(6, .long y177), (5, .int (nI 1)), (0, .ref b), (1, .ref (aw_r ad 0)), (2, .ref (aw_m ad 0)), (3, .ref (aw_o ad)), (4, .int (nI (6 * t)))] := hl
            refine lv_goto (tgt := 837) hx hb d_La_law_500 (by decide) ?_
            refine lv_iinc (k := 6) (v := nI (6 * t + 6)) hx hb d_La_law_837 hl rfl (aw_inc (6 * t) 6 6 (by decide +kernel)) (by decide) rfl (fun ls hl => ?_)
            have hl : lv_has ls 8 [(4, .int (nI (6 * t + 6))), (6, .long y177), (5, .int (nI 1)), (0, .ref b), (1, .ref (aw_r ad 0)), (2, .ref (aw_m ad 0)), (3, .ref (aw_o ad))] := hl
            refine lv_goto (tgt := 23) hx hb d_La_law_840 (by decide) ?_
            have hl := lv_sub hl (l' := [(0, .ref b), (1, .ref (aw_r ad 0)), (2, .ref (aw_m ad 0)), (3, .ref (aw_o ad)), (4, .int (nI (6 * t + 6)))]) [3, 4, 5, 6, 0] rfl
            refine W.widen (k := 85 + (t + 1)) (n := 1246 + 6 * (t + 1)) (by omega) (by omega) ?_
            exact ih (t + 1) zG zO zX zY zA zB zM zI zL zK zN (nI 1) zQ _ _ L ls (by omega) hP hD hSh hR hS (by first | exact hl | simpa [Nat.mul_add] using hl)
          refine lv_if_eq (tgt := 472) hx hb d_La_law_465 (by decide) (fun h9 => ?_) (fun h9 => ?_)
          · refine lv_iconst (v := nI 0) hx hb d_La_law_472 (by decide +kernel) ?_
            exact hj169 _ (if_pos h9)
          · refine lv_iconst (v := nI 1) hx hb d_La_law_468 (by decide +kernel) ?_
            refine lv_goto (tgt := 473) hx hb d_La_law_469 (by decide) ?_
            exact hj169 _ (if_neg h9)
        refine lv_if_eq (tgt := 423) hx hb d_La_law_416 (by decide) (fun h9 => ?_) (fun h9 => ?_)
        · refine lv_iconst (v := nI 0) hx hb d_La_law_423 (by decide +kernel) ?_
          exact hj161 _ (if_pos h9)
        · refine lv_iconst (v := nI 1) hx hb d_La_law_419 (by decide +kernel) ?_
          refine lv_goto (tgt := 424) hx hb d_La_law_420 (by decide) ?_
          exact hj161 _ (if_neg h9)
      · have hgj := hSh.2.2.2.2.1 j hj
        have hq1 : (zM j).1 = (zG j).1 := by rw [hR.1 j hj]
        have hq2 : (zM j).2 = (zG j).2 := by rw [hR.1 j hj]
        by_cases hs : 2 ≤ (zG j).1
        · obtain ⟨kc, hkc, hci, hco⟩ := hR.2.1 j hj (by omega)
          refine lv_aload_n hx hb d_La_law_403 rfl (lv_at hl 1 rfl) ?_
          refine lv_aload_n hx hb d_La_law_404 rfl (lv_at hl 0 rfl) ?_
          refine lv_iload hx hb d_La_law_405 (lv_at hl 4 rfl) ?_
          refine lv_iconst (v := nI 1) hx hb d_La_law_407 (by decide +kernel) ?_
          refine lv_iadd hx hb d_La_law_408 ?_
          refine aw_ti (nI_add (6 * t) 1) ?_
          refine va_sld hx hb hX hbl hbA hS (i := (nI ((6 * t) + 1))) (vp_in_nI (by omega) (by omega)) d_La_law_409 ?_
          refine aw_ti (y := nI j) (by rw [nI_clamp (by omega)]; exact hc0.symm) ?_
          refine lv_aload_n hx hb d_La_law_410 rfl (lv_at hl 0 rfl) ?_
          refine lv_iload hx hb d_La_law_411 (lv_at hl 4 rfl) ?_
          refine lv_iconst (v := nI 2) hx hb d_La_law_413 (by decide +kernel) ?_
          refine lv_iadd hx hb d_La_law_414 ?_
          refine aw_ti (nI_add (6 * t) 2) ?_
          refine va_sld hx hb hX hbl hbA hS (i := (nI ((6 * t) + 2))) (vp_in_nI (by omega) (by omega)) d_La_law_415 ?_
          refine aw_ti (y := s2) (by rw [nI_clamp (by omega)]; exact hs2.symm) ?_
          have hj178 : ∀ x179 : Int32, (if s2 = 0 then nI 0 else nI 1) = x179 → W p l e room_1 s m #[Value.ref b] below meth c H locs (85 + t) (1246 + 6 * t) (lw_Z below #[Value.ref b] s) (F0 m 424 ls [.int x179, .int (nI j), .ref (aw_r ad 0)]) := by
            intro x179 ebx179
            refine lv_aload_n hx hb d_La_law_424 rfl (lv_at hl 0 rfl) ?_
            refine lv_iload hx hb d_La_law_425 (lv_at hl 4 rfl) ?_
            refine lv_iconst (v := nI 3) hx hb d_La_law_427 (by decide +kernel) ?_
            refine lv_iadd hx hb d_La_law_428 ?_
            refine aw_ti (nI_add (6 * t) 3) ?_
            refine va_sld hx hb hX hbl hbA hS (i := (nI ((6 * t) + 3))) (vp_in_nI (by omega) (by omega)) d_La_law_429 ?_
            refine aw_ti (y := s3) (by rw [nI_clamp (by omega)]; exact hs3.symm) ?_
            refine lv_i2l hx hb d_La_law_430 rfl ?_
            refine ag_topl (fun y180 ey180 => ?_)
            refine lv_bipush (v := nI 32) hx hb d_La_law_431 (by decide +kernel) ?_
            refine lv_lshl hx hb d_La_law_433 rfl ?_
            refine ag_topl (fun y181 ey181 => ?_)
            refine lv_aload_n hx hb d_La_law_434 rfl (lv_at hl 0 rfl) ?_
            refine lv_iload hx hb d_La_law_435 (lv_at hl 4 rfl) ?_
            refine lv_iconst (v := nI 4) hx hb d_La_law_437 (by decide +kernel) ?_
            refine lv_iadd hx hb d_La_law_438 ?_
            refine aw_ti (nI_add (6 * t) 4) ?_
            refine va_sld hx hb hX hbl hbA hS (i := (nI ((6 * t) + 4))) (vp_in_nI (by omega) (by omega)) d_La_law_439 ?_
            refine aw_ti (y := s4) (by rw [nI_clamp (by omega)]; exact hs4.symm) ?_
            refine lv_i2l hx hb d_La_law_440 rfl ?_
            refine ag_topl (fun y182 ey182 => ?_)
            refine lv_ldc2 (v := 4294967295) hx hb hown (hG _ gw_13_3) d_La_law_441 ?_
            refine lv_land hx hb d_La_law_444 ?_
            refine ag_topl (fun y183 ey183 => ?_)
            refine lv_lor hx hb d_La_law_445 ?_
            refine ag_topl (fun y184 ey184 => ?_)
            refine lv_aload_n hx hb d_La_law_446 rfl (lv_at hl 3 rfl) ?_
            refine va_calli (vx_runSW (As := [.ref (aw_r ad 0), .int (nI j), .int x179, .long y184, .ref (aw_o ad)]) (rest := []) ⟨hx, hb, hml, hown, hG⟩ (k_La_block1V l hst D g ad N0 zG zO zX zY zA zB zM zI zL zK zN zF zQ j x179 y184 hj (by omega)) (aw_wW 5 hG gw_5_55 gw_5_53 gw_0_0 gw_5_54 rfl rfl hd_La_block ⟨Nat.le_of_ble_eq_true rfl, Nat.le_of_ble_eq_true rfl⟩) (ag_qS hP hD hSh hU hS) rfl rfl hl.1 rfl (lv_room (Nat.le_of_ble_eq_true rfl)) d_La_law_447 ⟨by omega, by omega⟩) hS (fun _ _ h => h) (fun _ h => h) ?_
            clear hP hD hSh hS
            intro x185 u8 t8 H locs ht _ ex185 hB _ _ hS
            obtain ⟨L, hP, hD, hSh⟩ := hB
            rw [ht] at hP
            clear ht
            subst ex185
            obtain ⟨zQ186, ezQ186⟩ : ∃ z : Int64, v_La_block1V_zQ zO zA j x179 y184 = z := ⟨_, rfl⟩
            rw [ezQ186] at hSh
            refine lv_istore hx hb d_La_law_450 hl (by decide) rfl (fun ls hl => ?_)
            have hl : lv_has ls 8 [(5, .int (nI 0)), (0, .ref b), (1, .ref (aw_r ad 0)), (2, .ref (aw_m ad 0)), (3, .ref (aw_o ad)), (4, .int (nI (6 * t)))] := hl
            refine lv_aload_n hx hb d_La_law_452 rfl (lv_at hl 3 rfl) ?_
            refine lv_aload_n hx hb d_La_law_453 rfl (lv_at hl 1 rfl) ?_
            refine lv_iload hx hb d_La_law_454 (lv_at hl 5 rfl) ?_
            refine lv_iconst (v := nI 1) hx hb d_La_law_456 (by decide +kernel) ?_
            refine lv_iadd hx hb d_La_law_457 ?_
            refine aw_ti (nI_add (6 * t) 1) ?_
            refine va_sld hx hb hX hbl hbA hS (i := (nI ((6 * t) + 1))) (vp_in_nI (by omega) (by omega)) d_La_law_458 ?_
            refine aw_ti (y := nI j) (by rw [nI_clamp (by omega)]; exact hc0.symm) ?_
            refine lv_aload_n hx hb d_La_law_459 rfl (lv_at hl 1 rfl) ?_
            refine lv_iload hx hb d_La_law_460 (lv_at hl 5 rfl) ?_
            refine lv_iconst (v := nI 2) hx hb d_La_law_462 (by decide +kernel) ?_
            refine lv_iadd hx hb d_La_law_463 ?_
            refine aw_ti (nI_add (6 * t) 2) ?_
            refine va_sld hx hb hX hbl hbA hS (i := (nI ((6 * t) + 2))) (vp_in_nI (by omega) (by omega)) d_La_law_464 ?_
            refine aw_ti (y := s2) (by rw [nI_clamp (by omega)]; exact hs2.symm) ?_
            have hj187 : ∀ x188 : Int32, (if s2 = 0 then nI 0 else nI 1) = x188 → W p l e room_1 s m #[Value.ref b] below meth c H locs ((85 + t) + 1) ((1246 + 6 * t) + 6) (lw_Z below #[Value.ref b] s) (F0 m 473 ls [.int x188, .int (nI j), .ref (aw_m ad 0)]) := by
              intro x188 ebx188
              refine lv_aload_n hx hb d_La_law_473 rfl (lv_at hl 1 rfl) ?_
              refine lv_iload hx hb d_La_law_474 (lv_at hl 5 rfl) ?_
              refine lv_iconst (v := nI 3) hx hb d_La_law_476 (by decide +kernel) ?_
              refine lv_iadd hx hb d_La_law_477 ?_
              refine aw_ti (nI_add (6 * t) 3) ?_
              refine va_sld hx hb hX hbl hbA hS (i := (nI ((6 * t) + 3))) (vp_in_nI (by omega) (by omega)) d_La_law_478 ?_
              refine aw_ti (y := s3) (by rw [nI_clamp (by omega)]; exact hs3.symm) ?_
              refine lv_i2l hx hb d_La_law_479 rfl ?_
              refine ag_topl (fun y189 ey189 => ?_)
              refine lv_bipush (v := nI 32) hx hb d_La_law_480 (by decide +kernel) ?_
              refine lv_lshl hx hb d_La_law_482 rfl ?_
              refine ag_topl (fun y190 ey190 => ?_)
              refine lv_aload_n hx hb d_La_law_483 rfl (lv_at hl 1 rfl) ?_
              refine lv_iload hx hb d_La_law_484 (lv_at hl 5 rfl) ?_
              refine lv_iconst (v := nI 4) hx hb d_La_law_486 (by decide +kernel) ?_
              refine lv_iadd hx hb d_La_law_487 ?_
              refine aw_ti (nI_add (6 * t) 4) ?_
              refine va_sld hx hb hX hbl hbA hS (i := (nI ((6 * t) + 4))) (vp_in_nI (by omega) (by omega)) d_La_law_488 ?_
              refine aw_ti (y := s4) (by rw [nI_clamp (by omega)]; exact hs4.symm) ?_
              refine lv_i2l hx hb d_La_law_489 rfl ?_
              refine ag_topl (fun y191 ey191 => ?_)
              refine lv_ldc2 (v := 4294967295) hx hb hown (hG _ gw_13_3) d_La_law_490 ?_
              refine lv_land hx hb d_La_law_493 ?_
              refine ag_topl (fun y192 ey192 => ?_)
              refine lv_lor hx hb d_La_law_494 ?_
              refine ag_topl (fun y193 ey193 => ?_)
              obtain ⟨_, he194⟩ := zr_M0 hSh
              refine va_calll (va_runV (As := [.int (nI j), .int x188, .long y193]) (rest := []) ⟨hx, hb, hml, hown, hG⟩ (k_Mo_block1V l D g ad N0 zG zO zX zY zA zB zM zI zL zK zN zF zQ186 j kc x188 y193 hj (by omega) hkc hci) (aw_wV 3 hG gw_11_3 gw_11_0 gw_0_10 gw_11_1 gw_11_2 rfl rfl hd_Mo_block ⟨Nat.le_of_ble_eq_true rfl, Nat.le_of_ble_eq_true rfl⟩) (ag_qV (va_recv hK hP rfl he194) hP hD hSh hU hS) rfl rfl hl.1 rfl (lv_room (Nat.le_of_ble_eq_true rfl)) d_La_law_495 ⟨by omega, by omega⟩) hS (fun _ _ h => h) (fun _ h => h) ?_
              clear hP hD hSh hS he194
              intro y195 u8 t8 H locs ht _ ey195 hB _ _ hS
              obtain ⟨L, hP, hD, hSh⟩ := hB
              rw [ht] at hP
              clear ht
              obtain ⟨zI196, ezI196⟩ : ∃ z : Nat → Nat → Int32, v_Mo_block1V_zI zI zL j kc x188 y193 = z := ⟨_, rfl⟩
              rw [ezI196] at hSh
              have ey195 := ey195.symm
              refine lv_lstore hx hb d_La_law_498 hl (by decide) rfl (fun ls hl => ?_)
              have hl : lv_has ls 8 [(6, .long y195), (5, .int (nI 0)), (0, .ref b), (1, .ref (aw_r ad 0)), (2, .ref (aw_m ad 0)), (3, .ref (aw_o ad)), (4, .int (nI (6 * t)))] := hl
              refine lv_goto (tgt := 837) hx hb d_La_law_500 (by decide) ?_
              refine lv_iinc (k := 6) (v := nI (6 * t + 6)) hx hb d_La_law_837 hl rfl (aw_inc (6 * t) 6 6 (by decide +kernel)) (by decide) rfl (fun ls hl => ?_)
              have hl : lv_has ls 8 [(4, .int (nI (6 * t + 6))), (6, .long y195), (5, .int (nI 0)), (0, .ref b), (1, .ref (aw_r ad 0)), (2, .ref (aw_m ad 0)), (3, .ref (aw_o ad))] := hl
              refine lv_goto (tgt := 23) hx hb d_La_law_840 (by decide) ?_
              have hl := lv_sub hl (l' := [(0, .ref b), (1, .ref (aw_r ad 0)), (2, .ref (aw_m ad 0)), (3, .ref (aw_o ad)), (4, .int (nI (6 * t + 6)))]) [3, 4, 5, 6, 0] rfl
              refine W.widen (k := 85 + (t + 1)) (n := 1246 + 6 * (t + 1)) (by omega) (by omega) ?_
              have hR : az_R zG zO zX zY zA zB zM zI196 zL := by
                subst ey195 ezI196 ey193 ey192 ey191 ey190 ey189 ebx188 ezQ186 ey184 ey183 ey182 ey181 ey180 ebx179
                exact r_block1 hR hj hs hkc hci hco
              exact ih (t + 1) zG zO zX zY zA zB zM zI196 zL (nI kc) (az_wn kc) (nI 0) zQ186 _ _ L ls (by omega) hP hD hSh hR hS (by first | exact hl | simpa [Nat.mul_add] using hl)
            refine lv_if_eq (tgt := 472) hx hb d_La_law_465 (by decide) (fun h9 => ?_) (fun h9 => ?_)
            · refine lv_iconst (v := nI 0) hx hb d_La_law_472 (by decide +kernel) ?_
              exact hj187 _ (if_pos h9)
            · refine lv_iconst (v := nI 1) hx hb d_La_law_468 (by decide +kernel) ?_
              refine lv_goto (tgt := 473) hx hb d_La_law_469 (by decide) ?_
              exact hj187 _ (if_neg h9)
          refine lv_if_eq (tgt := 423) hx hb d_La_law_416 (by decide) (fun h9 => ?_) (fun h9 => ?_)
          · refine lv_iconst (v := nI 0) hx hb d_La_law_423 (by decide +kernel) ?_
            exact hj178 _ (if_pos h9)
          · refine lv_iconst (v := nI 1) hx hb d_La_law_419 (by decide +kernel) ?_
            refine lv_goto (tgt := 424) hx hb d_La_law_420 (by decide) ?_
            exact hj178 _ (if_neg h9)
        · refine lv_aload_n hx hb d_La_law_403 rfl (lv_at hl 1 rfl) ?_
          refine lv_aload_n hx hb d_La_law_404 rfl (lv_at hl 0 rfl) ?_
          refine lv_iload hx hb d_La_law_405 (lv_at hl 4 rfl) ?_
          refine lv_iconst (v := nI 1) hx hb d_La_law_407 (by decide +kernel) ?_
          refine lv_iadd hx hb d_La_law_408 ?_
          refine aw_ti (nI_add (6 * t) 1) ?_
          refine va_sld hx hb hX hbl hbA hS (i := (nI ((6 * t) + 1))) (vp_in_nI (by omega) (by omega)) d_La_law_409 ?_
          refine aw_ti (y := nI j) (by rw [nI_clamp (by omega)]; exact hc0.symm) ?_
          refine lv_aload_n hx hb d_La_law_410 rfl (lv_at hl 0 rfl) ?_
          refine lv_iload hx hb d_La_law_411 (lv_at hl 4 rfl) ?_
          refine lv_iconst (v := nI 2) hx hb d_La_law_413 (by decide +kernel) ?_
          refine lv_iadd hx hb d_La_law_414 ?_
          refine aw_ti (nI_add (6 * t) 2) ?_
          refine va_sld hx hb hX hbl hbA hS (i := (nI ((6 * t) + 2))) (vp_in_nI (by omega) (by omega)) d_La_law_415 ?_
          refine aw_ti (y := s2) (by rw [nI_clamp (by omega)]; exact hs2.symm) ?_
          have hj197 : ∀ x198 : Int32, (if s2 = 0 then nI 0 else nI 1) = x198 → W p l e room_1 s m #[Value.ref b] below meth c H locs (85 + t) (1246 + 6 * t) (lw_Z below #[Value.ref b] s) (F0 m 424 ls [.int x198, .int (nI j), .ref (aw_r ad 0)]) := by
            intro x198 ebx198
            refine lv_aload_n hx hb d_La_law_424 rfl (lv_at hl 0 rfl) ?_
            refine lv_iload hx hb d_La_law_425 (lv_at hl 4 rfl) ?_
            refine lv_iconst (v := nI 3) hx hb d_La_law_427 (by decide +kernel) ?_
            refine lv_iadd hx hb d_La_law_428 ?_
            refine aw_ti (nI_add (6 * t) 3) ?_
            refine va_sld hx hb hX hbl hbA hS (i := (nI ((6 * t) + 3))) (vp_in_nI (by omega) (by omega)) d_La_law_429 ?_
            refine aw_ti (y := s3) (by rw [nI_clamp (by omega)]; exact hs3.symm) ?_
            refine lv_i2l hx hb d_La_law_430 rfl ?_
            refine ag_topl (fun y199 ey199 => ?_)
            refine lv_bipush (v := nI 32) hx hb d_La_law_431 (by decide +kernel) ?_
            refine lv_lshl hx hb d_La_law_433 rfl ?_
            refine ag_topl (fun y200 ey200 => ?_)
            refine lv_aload_n hx hb d_La_law_434 rfl (lv_at hl 0 rfl) ?_
            refine lv_iload hx hb d_La_law_435 (lv_at hl 4 rfl) ?_
            refine lv_iconst (v := nI 4) hx hb d_La_law_437 (by decide +kernel) ?_
            refine lv_iadd hx hb d_La_law_438 ?_
            refine aw_ti (nI_add (6 * t) 4) ?_
            refine va_sld hx hb hX hbl hbA hS (i := (nI ((6 * t) + 4))) (vp_in_nI (by omega) (by omega)) d_La_law_439 ?_
            refine aw_ti (y := s4) (by rw [nI_clamp (by omega)]; exact hs4.symm) ?_
            refine lv_i2l hx hb d_La_law_440 rfl ?_
            refine ag_topl (fun y201 ey201 => ?_)
            refine lv_ldc2 (v := 4294967295) hx hb hown (hG _ gw_13_3) d_La_law_441 ?_
            refine lv_land hx hb d_La_law_444 ?_
            refine ag_topl (fun y202 ey202 => ?_)
            refine lv_lor hx hb d_La_law_445 ?_
            refine ag_topl (fun y203 ey203 => ?_)
            refine lv_aload_n hx hb d_La_law_446 rfl (lv_at hl 3 rfl) ?_
            refine va_calli (vx_runSW (As := [.ref (aw_r ad 0), .int (nI j), .int x198, .long y203, .ref (aw_o ad)]) (rest := []) ⟨hx, hb, hml, hown, hG⟩ (k_La_blockXsV l hst D g ad N0 zG zO zX zY zA zB zM zI zL zK zN zF zQ j x198 y203 hj (by omega)) (aw_wW 5 hG gw_5_55 gw_5_53 gw_0_0 gw_5_54 rfl rfl hd_La_block ⟨Nat.le_of_ble_eq_true rfl, Nat.le_of_ble_eq_true rfl⟩) (ag_qS hP hD hSh hU hS) rfl rfl hl.1 rfl (lv_room (Nat.le_of_ble_eq_true rfl)) d_La_law_447 ⟨by omega, by omega⟩) hS (fun _ _ h => h) (fun _ h => h) ?_
            clear hP hD hSh hS
            intro x204 u8 t8 H locs ht _ ex204 hB _ _ hS
            obtain ⟨L, hP, hD, hSh⟩ := hB
            rw [ht] at hP
            clear ht
            subst ex204
            refine lv_istore hx hb d_La_law_450 hl (by decide) rfl (fun ls hl => ?_)
            have hl : lv_has ls 8 [(5, .int (nI 2)), (0, .ref b), (1, .ref (aw_r ad 0)), (2, .ref (aw_m ad 0)), (3, .ref (aw_o ad)), (4, .int (nI (6 * t)))] := hl
            refine lv_aload_n hx hb d_La_law_452 rfl (lv_at hl 3 rfl) ?_
            refine lv_aload_n hx hb d_La_law_453 rfl (lv_at hl 1 rfl) ?_
            refine lv_iload hx hb d_La_law_454 (lv_at hl 5 rfl) ?_
            refine lv_iconst (v := nI 1) hx hb d_La_law_456 (by decide +kernel) ?_
            refine lv_iadd hx hb d_La_law_457 ?_
            refine aw_ti (nI_add (6 * t) 1) ?_
            refine va_sld hx hb hX hbl hbA hS (i := (nI ((6 * t) + 1))) (vp_in_nI (by omega) (by omega)) d_La_law_458 ?_
            refine aw_ti (y := nI j) (by rw [nI_clamp (by omega)]; exact hc0.symm) ?_
            refine lv_aload_n hx hb d_La_law_459 rfl (lv_at hl 1 rfl) ?_
            refine lv_iload hx hb d_La_law_460 (lv_at hl 5 rfl) ?_
            refine lv_iconst (v := nI 2) hx hb d_La_law_462 (by decide +kernel) ?_
            refine lv_iadd hx hb d_La_law_463 ?_
            refine aw_ti (nI_add (6 * t) 2) ?_
            refine va_sld hx hb hX hbl hbA hS (i := (nI ((6 * t) + 2))) (vp_in_nI (by omega) (by omega)) d_La_law_464 ?_
            refine aw_ti (y := s2) (by rw [nI_clamp (by omega)]; exact hs2.symm) ?_
            have hj205 : ∀ x206 : Int32, (if s2 = 0 then nI 0 else nI 1) = x206 → W p l e room_1 s m #[Value.ref b] below meth c H locs ((85 + t) + 1) ((1246 + 6 * t) + 6) (lw_Z below #[Value.ref b] s) (F0 m 473 ls [.int x206, .int (nI j), .ref (aw_m ad 0)]) := by
              intro x206 ebx206
              refine lv_aload_n hx hb d_La_law_473 rfl (lv_at hl 1 rfl) ?_
              refine lv_iload hx hb d_La_law_474 (lv_at hl 5 rfl) ?_
              refine lv_iconst (v := nI 3) hx hb d_La_law_476 (by decide +kernel) ?_
              refine lv_iadd hx hb d_La_law_477 ?_
              refine aw_ti (nI_add (6 * t) 3) ?_
              refine va_sld hx hb hX hbl hbA hS (i := (nI ((6 * t) + 3))) (vp_in_nI (by omega) (by omega)) d_La_law_478 ?_
              refine aw_ti (y := s3) (by rw [nI_clamp (by omega)]; exact hs3.symm) ?_
              refine lv_i2l hx hb d_La_law_479 rfl ?_
              refine ag_topl (fun y207 ey207 => ?_)
              refine lv_bipush (v := nI 32) hx hb d_La_law_480 (by decide +kernel) ?_
              refine lv_lshl hx hb d_La_law_482 rfl ?_
              refine ag_topl (fun y208 ey208 => ?_)
              refine lv_aload_n hx hb d_La_law_483 rfl (lv_at hl 1 rfl) ?_
              refine lv_iload hx hb d_La_law_484 (lv_at hl 5 rfl) ?_
              refine lv_iconst (v := nI 4) hx hb d_La_law_486 (by decide +kernel) ?_
              refine lv_iadd hx hb d_La_law_487 ?_
              refine aw_ti (nI_add (6 * t) 4) ?_
              refine va_sld hx hb hX hbl hbA hS (i := (nI ((6 * t) + 4))) (vp_in_nI (by omega) (by omega)) d_La_law_488 ?_
              refine aw_ti (y := s4) (by rw [nI_clamp (by omega)]; exact hs4.symm) ?_
              refine lv_i2l hx hb d_La_law_489 rfl ?_
              refine ag_topl (fun y209 ey209 => ?_)
              refine lv_ldc2 (v := 4294967295) hx hb hown (hG _ gw_13_3) d_La_law_490 ?_
              refine lv_land hx hb d_La_law_493 ?_
              refine ag_topl (fun y210 ey210 => ?_)
              refine lv_lor hx hb d_La_law_494 ?_
              refine ag_topl (fun y211 ey211 => ?_)
              obtain ⟨_, he212⟩ := zr_M0 hSh
              refine va_calll (va_runV (As := [.int (nI j), .int x206, .long y211]) (rest := []) ⟨hx, hb, hml, hown, hG⟩ (k_Mo_blockXsV l D g ad N0 zG zO zX zY zA zB zM zI zL zK zN zF zQ j x206 y211 hj (by omega)) (aw_wV 3 hG gw_11_3 gw_11_0 gw_0_10 gw_11_1 gw_11_2 rfl rfl hd_Mo_block ⟨Nat.le_of_ble_eq_true rfl, Nat.le_of_ble_eq_true rfl⟩) (ag_qV (va_recv hK hP rfl he212) hP hD hSh hU hS) rfl rfl hl.1 rfl (lv_room (Nat.le_of_ble_eq_true rfl)) d_La_law_495 ⟨by omega, by omega⟩) hS (fun _ _ h => h) (fun _ h => h) ?_
              clear hP hD hSh hS he212
              intro y213 u8 t8 H locs ht _ ey213 hB _ _ hS
              obtain ⟨L, hP, hD, hSh⟩ := hB
              rw [ht] at hP
              clear ht
              have ey213 := ey213.symm
              refine lv_lstore hx hb d_La_law_498 hl (by decide) rfl (fun ls hl => ?_)
              have hl : lv_has ls 8 [(6, .long y213), (5, .int (nI 2)), (0, .ref b), (1, .ref (aw_r ad 0)), (2, .ref (aw_m ad 0)), (3, .ref (aw_o ad)), (4, .int (nI (6 * t)))] := hl
              refine lv_goto (tgt := 837) hx hb d_La_law_500 (by decide) ?_
              refine lv_iinc (k := 6) (v := nI (6 * t + 6)) hx hb d_La_law_837 hl rfl (aw_inc (6 * t) 6 6 (by decide +kernel)) (by decide) rfl (fun ls hl => ?_)
              have hl : lv_has ls 8 [(4, .int (nI (6 * t + 6))), (6, .long y213), (5, .int (nI 2)), (0, .ref b), (1, .ref (aw_r ad 0)), (2, .ref (aw_m ad 0)), (3, .ref (aw_o ad))] := hl
              refine lv_goto (tgt := 23) hx hb d_La_law_840 (by decide) ?_
              have hl := lv_sub hl (l' := [(0, .ref b), (1, .ref (aw_r ad 0)), (2, .ref (aw_m ad 0)), (3, .ref (aw_o ad)), (4, .int (nI (6 * t + 6)))]) [3, 4, 5, 6, 0] rfl
              refine W.widen (k := 85 + (t + 1)) (n := 1246 + 6 * (t + 1)) (by omega) (by omega) ?_
              exact ih (t + 1) zG zO zX zY zA zB zM zI zL zK zN (nI 2) zQ _ _ L ls (by omega) hP hD hSh hR hS (by first | exact hl | simpa [Nat.mul_add] using hl)
            refine lv_if_eq (tgt := 472) hx hb d_La_law_465 (by decide) (fun h9 => ?_) (fun h9 => ?_)
            · refine lv_iconst (v := nI 0) hx hb d_La_law_472 (by decide +kernel) ?_
              exact hj205 _ (if_pos h9)
            · refine lv_iconst (v := nI 1) hx hb d_La_law_468 (by decide +kernel) ?_
              refine lv_goto (tgt := 473) hx hb d_La_law_469 (by decide) ?_
              exact hj205 _ (if_neg h9)
          refine lv_if_eq (tgt := 423) hx hb d_La_law_416 (by decide) (fun h9 => ?_) (fun h9 => ?_)
          · refine lv_iconst (v := nI 0) hx hb d_La_law_423 (by decide +kernel) ?_
            exact hj197 _ (if_pos h9)
          · refine lv_iconst (v := nI 1) hx hb d_La_law_419 (by decide +kernel) ?_
            refine lv_goto (tgt := 424) hx hb d_La_law_420 (by decide) ?_
            exact hj197 _ (if_neg h9)
    · refine aw_ti (y := nI 6) (by rw [hs3]) ?_
      refine lv_tableIn (tgt := 503) (off := 463) hx hb d_La_law_40 (by decide +kernel) (by decide +kernel) (by decide +kernel) (by decide) ?_
      obtain ⟨c0, hc0⟩ : ∃ z : Int32, z = xs (6 * t + 1) := ⟨_, rfl⟩
      obtain ⟨s2, hs2⟩ : ∃ z : Int32, z = xs (6 * t + 2) := ⟨_, rfl⟩
      rcases aw_rng 4 (by decide) c0 with hc | ⟨j, hj, rfl⟩
      · refine lv_aload_n hx hb d_La_law_503 rfl (lv_at hl 1 rfl) ?_
        refine lv_aload_n hx hb d_La_law_504 rfl (lv_at hl 0 rfl) ?_
        refine lv_iload hx hb d_La_law_505 (lv_at hl 4 rfl) ?_
        refine lv_iconst (v := nI 1) hx hb d_La_law_507 (by decide +kernel) ?_
        refine lv_iadd hx hb d_La_law_508 ?_
        refine aw_ti (nI_add (6 * t) 1) ?_
        refine va_sld hx hb hX hbl hbA hS (i := (nI ((6 * t) + 1))) (vp_in_nI (by omega) (by omega)) d_La_law_509 ?_
        refine aw_ti (y := c0) (by rw [nI_clamp (by omega)]; exact hc0.symm) ?_
        refine lv_aload_n hx hb d_La_law_510 rfl (lv_at hl 0 rfl) ?_
        refine lv_iload hx hb d_La_law_511 (lv_at hl 4 rfl) ?_
        refine lv_iconst (v := nI 2) hx hb d_La_law_513 (by decide +kernel) ?_
        refine lv_iadd hx hb d_La_law_514 ?_
        refine aw_ti (nI_add (6 * t) 2) ?_
        refine va_sld hx hb hX hbl hbA hS (i := (nI ((6 * t) + 2))) (vp_in_nI (by omega) (by omega)) d_La_law_515 ?_
        refine aw_ti (y := s2) (by rw [nI_clamp (by omega)]; exact hs2.symm) ?_
        refine lv_aload_n hx hb d_La_law_516 rfl (lv_at hl 3 rfl) ?_
        refine va_calli (vx_runSW (As := [.ref (aw_r ad 0), .int c0, .int s2, .ref (aw_o ad)]) (rest := []) ⟨hx, hb, hml, hown, hG⟩ (k_La_wordXcV l hst D g ad N0 zG zO zX zY zA zB zM zI zL zK zN zF zQ c0 s2 hc) (aw_wW 4 hG gw_7_9 gw_7_7 gw_0_0 gw_7_8 rfl rfl hd_La_word ⟨Nat.le_of_ble_eq_true rfl, Nat.le_of_ble_eq_true rfl⟩) (ag_qS hP hD hSh hU hS) rfl rfl hl.1 rfl (lv_room (Nat.le_of_ble_eq_true rfl)) d_La_law_517 ⟨by omega, by omega⟩) hS (fun _ _ h => h) (fun _ h => h) ?_
        clear hP hD hSh hS
        intro x214 u8 t8 H locs ht _ ex214 hB _ _ hS
        obtain ⟨L, hP, hD, hSh⟩ := hB
        rw [ht] at hP
        clear ht
        subst ex214
        refine lv_istore hx hb d_La_law_520 hl (by decide) rfl (fun ls hl => ?_)
        have hl : lv_has ls 8 [(5, .int (nI 1)), (0, .ref b), (1, .ref (aw_r ad 0)), (2, .ref (aw_m ad 0)), (3, .ref (aw_o ad)), (4, .int (nI (6 * t)))] := hl
        refine lv_aload_n hx hb d_La_law_522 rfl (lv_at hl 3 rfl) ?_
        refine lv_aload_n hx hb d_La_law_523 rfl (lv_at hl 1 rfl) ?_
        refine lv_iload hx hb d_La_law_524 (lv_at hl 5 rfl) ?_
        refine lv_iconst (v := nI 1) hx hb d_La_law_526 (by decide +kernel) ?_
        refine lv_iadd hx hb d_La_law_527 ?_
        refine aw_ti (nI_add (6 * t) 1) ?_
        refine va_sld hx hb hX hbl hbA hS (i := (nI ((6 * t) + 1))) (vp_in_nI (by omega) (by omega)) d_La_law_528 ?_
        refine aw_ti (y := c0) (by rw [nI_clamp (by omega)]; exact hc0.symm) ?_
        refine lv_aload_n hx hb d_La_law_529 rfl (lv_at hl 1 rfl) ?_
        refine lv_iload hx hb d_La_law_530 (lv_at hl 5 rfl) ?_
        refine lv_iconst (v := nI 2) hx hb d_La_law_532 (by decide +kernel) ?_
        refine lv_iadd hx hb d_La_law_533 ?_
        refine aw_ti (nI_add (6 * t) 2) ?_
        refine va_sld hx hb hX hbl hbA hS (i := (nI ((6 * t) + 2))) (vp_in_nI (by omega) (by omega)) d_La_law_534 ?_
        refine aw_ti (y := s2) (by rw [nI_clamp (by omega)]; exact hs2.symm) ?_
        obtain ⟨_, he215⟩ := zr_M0 hSh
        refine va_calli (va_runV (As := [.int c0, .int s2]) (rest := []) ⟨hx, hb, hml, hown, hG⟩ (k_Mo_wordXcV l D g ad N0 zG zO zX zY zA zB zM zI zL zK zN zF zQ c0 s2 hc) (aw_wV 2 hG gw_12_14 gw_12_11 gw_0_10 gw_12_12 gw_12_13 rfl rfl hd_Mo_word ⟨Nat.le_of_ble_eq_true rfl, Nat.le_of_ble_eq_true rfl⟩) (ag_qV (va_recv hK hP rfl he215) hP hD hSh hU hS) rfl rfl hl.1 rfl (lv_room (Nat.le_of_ble_eq_true rfl)) d_La_law_535 ⟨by omega, by omega⟩) hS (fun _ _ h => h) (fun _ h => h) ?_
        clear hP hD hSh hS he215
        intro x216 u8 t8 H locs ht _ ex216 hB _ _ hS
        obtain ⟨L, hP, hD, hSh⟩ := hB
        rw [ht] at hP
        clear ht
        have ex216 := ex216.symm
        refine lv_istore hx hb d_La_law_538 hl (by decide) rfl (fun ls hl => ?_)
        have hl : lv_has ls 8 [(6, .int x216), (5, .int (nI 1)), (0, .ref b), (1, .ref (aw_r ad 0)), (2, .ref (aw_m ad 0)), (3, .ref (aw_o ad)), (4, .int (nI (6 * t)))] := hl
        refine lv_goto (tgt := 837) hx hb d_La_law_540 (by decide) ?_
        refine lv_iinc (k := 6) (v := nI (6 * t + 6)) hx hb d_La_law_837 hl rfl (aw_inc (6 * t) 6 6 (by decide +kernel)) (by decide) rfl (fun ls hl => ?_)
        have hl : lv_has ls 8 [(4, .int (nI (6 * t + 6))), (6, .int x216), (5, .int (nI 1)), (0, .ref b), (1, .ref (aw_r ad 0)), (2, .ref (aw_m ad 0)), (3, .ref (aw_o ad))] := hl
        refine lv_goto (tgt := 23) hx hb d_La_law_840 (by decide) ?_
        have hl := lv_sub hl (l' := [(0, .ref b), (1, .ref (aw_r ad 0)), (2, .ref (aw_m ad 0)), (3, .ref (aw_o ad)), (4, .int (nI (6 * t + 6)))]) [3, 4, 5, 6, 0] rfl
        refine W.widen (k := 85 + (t + 1)) (n := 1246 + 6 * (t + 1)) (by omega) (by omega) ?_
        exact ih (t + 1) zG zO zX zY zA zB zM zI zL zK zN (nI 1) zQ _ _ L ls (by omega) hP hD hSh hR hS (by first | exact hl | simpa [Nat.mul_add] using hl)
      · have hgj := hSh.2.2.2.2.1 j hj
        have hq1 : (zM j).1 = (zG j).1 := by rw [hR.1 j hj]
        have hq2 : (zM j).2 = (zG j).2 := by rw [hR.1 j hj]
        by_cases hs : 2 ≤ (zG j).1
        · obtain ⟨kc, hkc, hci, hco⟩ := hR.2.1 j hj (by omega)
          refine lv_aload_n hx hb d_La_law_503 rfl (lv_at hl 1 rfl) ?_
          refine lv_aload_n hx hb d_La_law_504 rfl (lv_at hl 0 rfl) ?_
          refine lv_iload hx hb d_La_law_505 (lv_at hl 4 rfl) ?_
          refine lv_iconst (v := nI 1) hx hb d_La_law_507 (by decide +kernel) ?_
          refine lv_iadd hx hb d_La_law_508 ?_
          refine aw_ti (nI_add (6 * t) 1) ?_
          refine va_sld hx hb hX hbl hbA hS (i := (nI ((6 * t) + 1))) (vp_in_nI (by omega) (by omega)) d_La_law_509 ?_
          refine aw_ti (y := nI j) (by rw [nI_clamp (by omega)]; exact hc0.symm) ?_
          refine lv_aload_n hx hb d_La_law_510 rfl (lv_at hl 0 rfl) ?_
          refine lv_iload hx hb d_La_law_511 (lv_at hl 4 rfl) ?_
          refine lv_iconst (v := nI 2) hx hb d_La_law_513 (by decide +kernel) ?_
          refine lv_iadd hx hb d_La_law_514 ?_
          refine aw_ti (nI_add (6 * t) 2) ?_
          refine va_sld hx hb hX hbl hbA hS (i := (nI ((6 * t) + 2))) (vp_in_nI (by omega) (by omega)) d_La_law_515 ?_
          refine aw_ti (y := s2) (by rw [nI_clamp (by omega)]; exact hs2.symm) ?_
          refine lv_aload_n hx hb d_La_law_516 rfl (lv_at hl 3 rfl) ?_
          refine va_calli (vx_runSW (As := [.ref (aw_r ad 0), .int (nI j), .int s2, .ref (aw_o ad)]) (rest := []) ⟨hx, hb, hml, hown, hG⟩ (k_La_word1V l hst D g ad N0 zG zO zX zY zA zB zM zI zL zK zN zF zQ j s2 hj (by omega)) (aw_wW 4 hG gw_7_9 gw_7_7 gw_0_0 gw_7_8 rfl rfl hd_La_word ⟨Nat.le_of_ble_eq_true rfl, Nat.le_of_ble_eq_true rfl⟩) (ag_qS hP hD hSh hU hS) rfl rfl hl.1 rfl (lv_room (Nat.le_of_ble_eq_true rfl)) d_La_law_517 ⟨by omega, by omega⟩) hS (fun _ _ h => h) (fun _ h => h) ?_
          clear hP hD hSh hS
          intro x217 u8 t8 H locs ht _ ex217 hB _ _ hS
          obtain ⟨L, hP, hD, hSh⟩ := hB
          rw [ht] at hP
          clear ht
          subst ex217
          obtain ⟨zQ218, ezQ218⟩ : ∃ z : Int64, v_La_word1V_zQ zO zA j s2 = z := ⟨_, rfl⟩
          rw [ezQ218] at hSh
          refine lv_istore hx hb d_La_law_520 hl (by decide) rfl (fun ls hl => ?_)
          have hl : lv_has ls 8 [(5, .int (nI 0)), (0, .ref b), (1, .ref (aw_r ad 0)), (2, .ref (aw_m ad 0)), (3, .ref (aw_o ad)), (4, .int (nI (6 * t)))] := hl
          refine lv_aload_n hx hb d_La_law_522 rfl (lv_at hl 3 rfl) ?_
          refine lv_aload_n hx hb d_La_law_523 rfl (lv_at hl 1 rfl) ?_
          refine lv_iload hx hb d_La_law_524 (lv_at hl 5 rfl) ?_
          refine lv_iconst (v := nI 1) hx hb d_La_law_526 (by decide +kernel) ?_
          refine lv_iadd hx hb d_La_law_527 ?_
          refine aw_ti (nI_add (6 * t) 1) ?_
          refine va_sld hx hb hX hbl hbA hS (i := (nI ((6 * t) + 1))) (vp_in_nI (by omega) (by omega)) d_La_law_528 ?_
          refine aw_ti (y := nI j) (by rw [nI_clamp (by omega)]; exact hc0.symm) ?_
          refine lv_aload_n hx hb d_La_law_529 rfl (lv_at hl 1 rfl) ?_
          refine lv_iload hx hb d_La_law_530 (lv_at hl 5 rfl) ?_
          refine lv_iconst (v := nI 2) hx hb d_La_law_532 (by decide +kernel) ?_
          refine lv_iadd hx hb d_La_law_533 ?_
          refine aw_ti (nI_add (6 * t) 2) ?_
          refine va_sld hx hb hX hbl hbA hS (i := (nI ((6 * t) + 2))) (vp_in_nI (by omega) (by omega)) d_La_law_534 ?_
          refine aw_ti (y := s2) (by rw [nI_clamp (by omega)]; exact hs2.symm) ?_
          obtain ⟨_, he219⟩ := zr_M0 hSh
          refine va_calli (va_runV (As := [.int (nI j), .int s2]) (rest := []) ⟨hx, hb, hml, hown, hG⟩ (k_Mo_word1V l D g ad N0 zG zO zX zY zA zB zM zI zL zK zN zF zQ218 j kc s2 hj (by omega) hkc hci) (aw_wV 2 hG gw_12_14 gw_12_11 gw_0_10 gw_12_12 gw_12_13 rfl rfl hd_Mo_word ⟨Nat.le_of_ble_eq_true rfl, Nat.le_of_ble_eq_true rfl⟩) (ag_qV (va_recv hK hP rfl he219) hP hD hSh hU hS) rfl rfl hl.1 rfl (lv_room (Nat.le_of_ble_eq_true rfl)) d_La_law_535 ⟨by omega, by omega⟩) hS (fun _ _ h => h) (fun _ h => h) ?_
          clear hP hD hSh hS he219
          intro x220 u8 t8 H locs ht _ ex220 hB _ _ hS
          obtain ⟨L, hP, hD, hSh⟩ := hB
          rw [ht] at hP
          clear ht
          obtain ⟨zI221, ezI221⟩ : ∃ z : Nat → Nat → Int32, v_Mo_word1V_zI zI zL j kc s2 = z := ⟨_, rfl⟩
          rw [ezI221] at hSh
          have ex220 := ex220.symm
          refine lv_istore hx hb d_La_law_538 hl (by decide) rfl (fun ls hl => ?_)
          have hl : lv_has ls 8 [(6, .int x220), (5, .int (nI 0)), (0, .ref b), (1, .ref (aw_r ad 0)), (2, .ref (aw_m ad 0)), (3, .ref (aw_o ad)), (4, .int (nI (6 * t)))] := hl
          refine lv_goto (tgt := 837) hx hb d_La_law_540 (by decide) ?_
          refine lv_iinc (k := 6) (v := nI (6 * t + 6)) hx hb d_La_law_837 hl rfl (aw_inc (6 * t) 6 6 (by decide +kernel)) (by decide) rfl (fun ls hl => ?_)
          have hl : lv_has ls 8 [(4, .int (nI (6 * t + 6))), (6, .int x220), (5, .int (nI 0)), (0, .ref b), (1, .ref (aw_r ad 0)), (2, .ref (aw_m ad 0)), (3, .ref (aw_o ad))] := hl
          refine lv_goto (tgt := 23) hx hb d_La_law_840 (by decide) ?_
          have hl := lv_sub hl (l' := [(0, .ref b), (1, .ref (aw_r ad 0)), (2, .ref (aw_m ad 0)), (3, .ref (aw_o ad)), (4, .int (nI (6 * t + 6)))]) [3, 4, 5, 6, 0] rfl
          refine W.widen (k := 85 + (t + 1)) (n := 1246 + 6 * (t + 1)) (by omega) (by omega) ?_
          have hR : az_R zG zO zX zY zA zB zM zI221 zL := by
            subst ex220 ezI221 ezQ218
            exact r_word1 hR hj hs hkc hci hco
          exact ih (t + 1) zG zO zX zY zA zB zM zI221 zL (nI kc) (az_wn kc) (nI 0) zQ218 _ _ L ls (by omega) hP hD hSh hR hS (by first | exact hl | simpa [Nat.mul_add] using hl)
        · refine lv_aload_n hx hb d_La_law_503 rfl (lv_at hl 1 rfl) ?_
          refine lv_aload_n hx hb d_La_law_504 rfl (lv_at hl 0 rfl) ?_
          refine lv_iload hx hb d_La_law_505 (lv_at hl 4 rfl) ?_
          refine lv_iconst (v := nI 1) hx hb d_La_law_507 (by decide +kernel) ?_
          refine lv_iadd hx hb d_La_law_508 ?_
          refine aw_ti (nI_add (6 * t) 1) ?_
          refine va_sld hx hb hX hbl hbA hS (i := (nI ((6 * t) + 1))) (vp_in_nI (by omega) (by omega)) d_La_law_509 ?_
          refine aw_ti (y := nI j) (by rw [nI_clamp (by omega)]; exact hc0.symm) ?_
          refine lv_aload_n hx hb d_La_law_510 rfl (lv_at hl 0 rfl) ?_
          refine lv_iload hx hb d_La_law_511 (lv_at hl 4 rfl) ?_
          refine lv_iconst (v := nI 2) hx hb d_La_law_513 (by decide +kernel) ?_
          refine lv_iadd hx hb d_La_law_514 ?_
          refine aw_ti (nI_add (6 * t) 2) ?_
          refine va_sld hx hb hX hbl hbA hS (i := (nI ((6 * t) + 2))) (vp_in_nI (by omega) (by omega)) d_La_law_515 ?_
          refine aw_ti (y := s2) (by rw [nI_clamp (by omega)]; exact hs2.symm) ?_
          refine lv_aload_n hx hb d_La_law_516 rfl (lv_at hl 3 rfl) ?_
          refine va_calli (vx_runSW (As := [.ref (aw_r ad 0), .int (nI j), .int s2, .ref (aw_o ad)]) (rest := []) ⟨hx, hb, hml, hown, hG⟩ (k_La_wordXsV l hst D g ad N0 zG zO zX zY zA zB zM zI zL zK zN zF zQ j s2 hj (by omega)) (aw_wW 4 hG gw_7_9 gw_7_7 gw_0_0 gw_7_8 rfl rfl hd_La_word ⟨Nat.le_of_ble_eq_true rfl, Nat.le_of_ble_eq_true rfl⟩) (ag_qS hP hD hSh hU hS) rfl rfl hl.1 rfl (lv_room (Nat.le_of_ble_eq_true rfl)) d_La_law_517 ⟨by omega, by omega⟩) hS (fun _ _ h => h) (fun _ h => h) ?_
          clear hP hD hSh hS
          intro x222 u8 t8 H locs ht _ ex222 hB _ _ hS
          obtain ⟨L, hP, hD, hSh⟩ := hB
          rw [ht] at hP
          clear ht
          subst ex222
          refine lv_istore hx hb d_La_law_520 hl (by decide) rfl (fun ls hl => ?_)
          have hl : lv_has ls 8 [(5, .int (nI 2)), (0, .ref b), (1, .ref (aw_r ad 0)), (2, .ref (aw_m ad 0)), (3, .ref (aw_o ad)), (4, .int (nI (6 * t)))] := hl
          refine lv_aload_n hx hb d_La_law_522 rfl (lv_at hl 3 rfl) ?_
          refine lv_aload_n hx hb d_La_law_523 rfl (lv_at hl 1 rfl) ?_
          refine lv_iload hx hb d_La_law_524 (lv_at hl 5 rfl) ?_
          refine lv_iconst (v := nI 1) hx hb d_La_law_526 (by decide +kernel) ?_
          refine lv_iadd hx hb d_La_law_527 ?_
          refine aw_ti (nI_add (6 * t) 1) ?_
          refine va_sld hx hb hX hbl hbA hS (i := (nI ((6 * t) + 1))) (vp_in_nI (by omega) (by omega)) d_La_law_528 ?_
          refine aw_ti (y := nI j) (by rw [nI_clamp (by omega)]; exact hc0.symm) ?_
          refine lv_aload_n hx hb d_La_law_529 rfl (lv_at hl 1 rfl) ?_
          refine lv_iload hx hb d_La_law_530 (lv_at hl 5 rfl) ?_
          refine lv_iconst (v := nI 2) hx hb d_La_law_532 (by decide +kernel) ?_
          refine lv_iadd hx hb d_La_law_533 ?_
          refine aw_ti (nI_add (6 * t) 2) ?_
          refine va_sld hx hb hX hbl hbA hS (i := (nI ((6 * t) + 2))) (vp_in_nI (by omega) (by omega)) d_La_law_534 ?_
          refine aw_ti (y := s2) (by rw [nI_clamp (by omega)]; exact hs2.symm) ?_
          obtain ⟨_, he223⟩ := zr_M0 hSh
          refine va_calli (va_runV (As := [.int (nI j), .int s2]) (rest := []) ⟨hx, hb, hml, hown, hG⟩ (k_Mo_wordXsV l D g ad N0 zG zO zX zY zA zB zM zI zL zK zN zF zQ j s2 hj (by omega)) (aw_wV 2 hG gw_12_14 gw_12_11 gw_0_10 gw_12_12 gw_12_13 rfl rfl hd_Mo_word ⟨Nat.le_of_ble_eq_true rfl, Nat.le_of_ble_eq_true rfl⟩) (ag_qV (va_recv hK hP rfl he223) hP hD hSh hU hS) rfl rfl hl.1 rfl (lv_room (Nat.le_of_ble_eq_true rfl)) d_La_law_535 ⟨by omega, by omega⟩) hS (fun _ _ h => h) (fun _ h => h) ?_
          clear hP hD hSh hS he223
          intro x224 u8 t8 H locs ht _ ex224 hB _ _ hS
          obtain ⟨L, hP, hD, hSh⟩ := hB
          rw [ht] at hP
          clear ht
          have ex224 := ex224.symm
          refine lv_istore hx hb d_La_law_538 hl (by decide) rfl (fun ls hl => ?_)
          have hl : lv_has ls 8 [(6, .int x224), (5, .int (nI 2)), (0, .ref b), (1, .ref (aw_r ad 0)), (2, .ref (aw_m ad 0)), (3, .ref (aw_o ad)), (4, .int (nI (6 * t)))] := hl
          refine lv_goto (tgt := 837) hx hb d_La_law_540 (by decide) ?_
          refine lv_iinc (k := 6) (v := nI (6 * t + 6)) hx hb d_La_law_837 hl rfl (aw_inc (6 * t) 6 6 (by decide +kernel)) (by decide) rfl (fun ls hl => ?_)
          have hl : lv_has ls 8 [(4, .int (nI (6 * t + 6))), (6, .int x224), (5, .int (nI 2)), (0, .ref b), (1, .ref (aw_r ad 0)), (2, .ref (aw_m ad 0)), (3, .ref (aw_o ad))] := hl
          refine lv_goto (tgt := 23) hx hb d_La_law_840 (by decide) ?_
          have hl := lv_sub hl (l' := [(0, .ref b), (1, .ref (aw_r ad 0)), (2, .ref (aw_m ad 0)), (3, .ref (aw_o ad)), (4, .int (nI (6 * t + 6)))]) [3, 4, 5, 6, 0] rfl
          refine W.widen (k := 85 + (t + 1)) (n := 1246 + 6 * (t + 1)) (by omega) (by omega) ?_
          exact ih (t + 1) zG zO zX zY zA zB zM zI zL zK zN (nI 2) zQ _ _ L ls (by omega) hP hD hSh hR hS (by first | exact hl | simpa [Nat.mul_add] using hl)
    · refine aw_ti (y := nI 7) (by rw [hs3]) ?_
      refine lv_tableIn (tgt := 543) (off := 503) hx hb d_La_law_40 (by decide +kernel) (by decide +kernel) (by decide +kernel) (by decide) ?_
      obtain ⟨p0, hp0⟩ : ∃ z : Int32, z = xs (6 * t + 1) := ⟨_, rfl⟩
      obtain ⟨s2, hs2⟩ : ∃ z : Int32, z = xs (6 * t + 2) := ⟨_, rfl⟩
      rcases aw_rng 64 (by decide) p0 with hc | ⟨k, hk, rfl⟩
      · refine lv_aload_n hx hb d_La_law_543 rfl (lv_at hl 1 rfl) ?_
        refine lv_aload_n hx hb d_La_law_544 rfl (lv_at hl 0 rfl) ?_
        refine lv_iload hx hb d_La_law_545 (lv_at hl 4 rfl) ?_
        refine lv_iconst (v := nI 1) hx hb d_La_law_547 (by decide +kernel) ?_
        refine lv_iadd hx hb d_La_law_548 ?_
        refine aw_ti (nI_add (6 * t) 1) ?_
        refine va_sld hx hb hX hbl hbA hS (i := (nI ((6 * t) + 1))) (vp_in_nI (by omega) (by omega)) d_La_law_549 ?_
        refine aw_ti (y := p0) (by rw [nI_clamp (by omega)]; exact hp0.symm) ?_
        refine lv_aload_n hx hb d_La_law_550 rfl (lv_at hl 0 rfl) ?_
        refine lv_iload hx hb d_La_law_551 (lv_at hl 4 rfl) ?_
        refine lv_iconst (v := nI 2) hx hb d_La_law_553 (by decide +kernel) ?_
        refine lv_iadd hx hb d_La_law_554 ?_
        refine aw_ti (nI_add (6 * t) 2) ?_
        refine va_sld hx hb hX hbl hbA hS (i := (nI ((6 * t) + 2))) (vp_in_nI (by omega) (by omega)) d_La_law_555 ?_
        refine aw_ti (y := s2) (by rw [nI_clamp (by omega)]; exact hs2.symm) ?_
        refine va_calli (vx_runSW (As := [.ref (aw_r ad 0), .int p0, .int s2]) (rest := []) ⟨hx, hb, hml, hown, hG⟩ (k_La_putXV l hst D g ad N0 zG zO zX zY zA zB zM zI zL zK zN zF zQ p0 s2 hc) (aw_wW 3 hG gw_7_25 gw_7_23 gw_0_0 gw_7_24 rfl rfl hd_La_put ⟨Nat.le_of_ble_eq_true rfl, Nat.le_of_ble_eq_true rfl⟩) (ag_qS hP hD hSh hU hS) rfl rfl hl.1 rfl (lv_room (Nat.le_of_ble_eq_true rfl)) d_La_law_556 ⟨by omega, by omega⟩) hS (fun _ _ h => h) (fun _ h => h) ?_
        clear hP hD hSh hS
        intro x225 u8 t8 H locs ht _ ex225 hB _ _ hS
        obtain ⟨L, hP, hD, hSh⟩ := hB
        rw [ht] at hP
        clear ht
        subst ex225
        refine lv_istore hx hb d_La_law_559 hl (by decide) rfl (fun ls hl => ?_)
        have hl : lv_has ls 8 [(5, .int (nI 1)), (0, .ref b), (1, .ref (aw_r ad 0)), (2, .ref (aw_m ad 0)), (3, .ref (aw_o ad)), (4, .int (nI (6 * t)))] := hl
        refine lv_aload_n hx hb d_La_law_561 rfl (lv_at hl 3 rfl) ?_
        refine lv_aload_n hx hb d_La_law_562 rfl (lv_at hl 1 rfl) ?_
        refine lv_iload hx hb d_La_law_563 (lv_at hl 5 rfl) ?_
        refine lv_iconst (v := nI 1) hx hb d_La_law_565 (by decide +kernel) ?_
        refine lv_iadd hx hb d_La_law_566 ?_
        refine aw_ti (nI_add (6 * t) 1) ?_
        refine va_sld hx hb hX hbl hbA hS (i := (nI ((6 * t) + 1))) (vp_in_nI (by omega) (by omega)) d_La_law_567 ?_
        refine aw_ti (y := p0) (by rw [nI_clamp (by omega)]; exact hp0.symm) ?_
        refine lv_aload_n hx hb d_La_law_568 rfl (lv_at hl 1 rfl) ?_
        refine lv_iload hx hb d_La_law_569 (lv_at hl 5 rfl) ?_
        refine lv_iconst (v := nI 2) hx hb d_La_law_571 (by decide +kernel) ?_
        refine lv_iadd hx hb d_La_law_572 ?_
        refine aw_ti (nI_add (6 * t) 2) ?_
        refine va_sld hx hb hX hbl hbA hS (i := (nI ((6 * t) + 2))) (vp_in_nI (by omega) (by omega)) d_La_law_573 ?_
        refine aw_ti (y := s2) (by rw [nI_clamp (by omega)]; exact hs2.symm) ?_
        obtain ⟨_, he226⟩ := zr_M0 hSh
        refine va_callv (va_runV (As := [.int p0, .int s2]) (rest := []) ⟨hx, hb, hml, hown, hG⟩ (k_Mo_putXV l D g ad N0 zG zO zX zY zA zB zM zI zL zK zN zF zQ p0 s2 (aw_bnd 63 (by decide) hc)) (aw_wV 2 hG gw_12_18 gw_12_15 gw_0_10 gw_12_16 gw_12_17 rfl rfl hd_Mo_put ⟨Nat.le_of_ble_eq_true rfl, Nat.le_of_ble_eq_true rfl⟩) (ag_qV (va_recv hK hP rfl he226) hP hD hSh hU hS) rfl rfl hl.1 rfl (lv_room (Nat.le_of_ble_eq_true rfl)) d_La_law_574 ⟨by omega, by omega⟩) hS (fun _ _ h => h) (fun _ h => h) ?_
        clear hP hD hSh hS he226
        intro u8 t8 H locs ht _ _ hB _ _ hS
        obtain ⟨L, hP, hD, hSh⟩ := hB
        rw [ht] at hP
        clear ht
        refine lv_goto (tgt := 837) hx hb d_La_law_577 (by decide) ?_
        refine lv_iinc (k := 5) (v := nI (6 * t + 6)) hx hb d_La_law_837 hl rfl (aw_inc (6 * t) 6 6 (by decide +kernel)) (by decide) rfl (fun ls hl => ?_)
        have hl : lv_has ls 8 [(4, .int (nI (6 * t + 6))), (5, .int (nI 1)), (0, .ref b), (1, .ref (aw_r ad 0)), (2, .ref (aw_m ad 0)), (3, .ref (aw_o ad))] := hl
        refine lv_goto (tgt := 23) hx hb d_La_law_840 (by decide) ?_
        have hl := lv_sub hl (l' := [(0, .ref b), (1, .ref (aw_r ad 0)), (2, .ref (aw_m ad 0)), (3, .ref (aw_o ad)), (4, .int (nI (6 * t + 6)))]) [2, 3, 4, 5, 0] rfl
        refine W.widen (k := 85 + (t + 1)) (n := 1246 + 6 * (t + 1)) (by omega) (by omega) ?_
        exact ih (t + 1) zG zO zX zY zA zB zM zI zL zK zN (nI 1) zQ _ _ L ls (by omega) hP hD hSh hR hS (by first | exact hl | simpa [Nat.mul_add] using hl)
      · refine lv_aload_n hx hb d_La_law_543 rfl (lv_at hl 1 rfl) ?_
        refine lv_aload_n hx hb d_La_law_544 rfl (lv_at hl 0 rfl) ?_
        refine lv_iload hx hb d_La_law_545 (lv_at hl 4 rfl) ?_
        refine lv_iconst (v := nI 1) hx hb d_La_law_547 (by decide +kernel) ?_
        refine lv_iadd hx hb d_La_law_548 ?_
        refine aw_ti (nI_add (6 * t) 1) ?_
        refine va_sld hx hb hX hbl hbA hS (i := (nI ((6 * t) + 1))) (vp_in_nI (by omega) (by omega)) d_La_law_549 ?_
        refine aw_ti (y := nI k) (by rw [nI_clamp (by omega)]; exact hp0.symm) ?_
        refine lv_aload_n hx hb d_La_law_550 rfl (lv_at hl 0 rfl) ?_
        refine lv_iload hx hb d_La_law_551 (lv_at hl 4 rfl) ?_
        refine lv_iconst (v := nI 2) hx hb d_La_law_553 (by decide +kernel) ?_
        refine lv_iadd hx hb d_La_law_554 ?_
        refine aw_ti (nI_add (6 * t) 2) ?_
        refine va_sld hx hb hX hbl hbA hS (i := (nI ((6 * t) + 2))) (vp_in_nI (by omega) (by omega)) d_La_law_555 ?_
        refine aw_ti (y := s2) (by rw [nI_clamp (by omega)]; exact hs2.symm) ?_
        refine va_calli (vx_runSW (As := [.ref (aw_r ad 0), .int (nI k), .int s2]) (rest := []) ⟨hx, hb, hml, hown, hG⟩ (k_La_put1V l hst D g ad N0 zG zO zX zY zA zB zM zI zL zK zN zF zQ k s2 (by omega)) (aw_wW 3 hG gw_7_25 gw_7_23 gw_0_0 gw_7_24 rfl rfl hd_La_put ⟨Nat.le_of_ble_eq_true rfl, Nat.le_of_ble_eq_true rfl⟩) (ag_qS hP hD hSh hU hS) rfl rfl hl.1 rfl (lv_room (Nat.le_of_ble_eq_true rfl)) d_La_law_556 ⟨by omega, by omega⟩) hS (fun _ _ h => h) (fun _ h => h) ?_
        clear hP hD hSh hS
        intro x227 u8 t8 H locs ht _ ex227 hB _ _ hS
        obtain ⟨L, hP, hD, hSh⟩ := hB
        rw [ht] at hP
        clear ht
        subst ex227
        obtain ⟨zB228, ezB228⟩ : ∃ z : Nat → Int32, v_La_put1V_zB zB k s2 = z := ⟨_, rfl⟩
        rw [ezB228] at hSh
        refine lv_istore hx hb d_La_law_559 hl (by decide) rfl (fun ls hl => ?_)
        have hl : lv_has ls 8 [(5, .int (nI 0)), (0, .ref b), (1, .ref (aw_r ad 0)), (2, .ref (aw_m ad 0)), (3, .ref (aw_o ad)), (4, .int (nI (6 * t)))] := hl
        refine lv_aload_n hx hb d_La_law_561 rfl (lv_at hl 3 rfl) ?_
        refine lv_aload_n hx hb d_La_law_562 rfl (lv_at hl 1 rfl) ?_
        refine lv_iload hx hb d_La_law_563 (lv_at hl 5 rfl) ?_
        refine lv_iconst (v := nI 1) hx hb d_La_law_565 (by decide +kernel) ?_
        refine lv_iadd hx hb d_La_law_566 ?_
        refine aw_ti (nI_add (6 * t) 1) ?_
        refine va_sld hx hb hX hbl hbA hS (i := (nI ((6 * t) + 1))) (vp_in_nI (by omega) (by omega)) d_La_law_567 ?_
        refine aw_ti (y := nI k) (by rw [nI_clamp (by omega)]; exact hp0.symm) ?_
        refine lv_aload_n hx hb d_La_law_568 rfl (lv_at hl 1 rfl) ?_
        refine lv_iload hx hb d_La_law_569 (lv_at hl 5 rfl) ?_
        refine lv_iconst (v := nI 2) hx hb d_La_law_571 (by decide +kernel) ?_
        refine lv_iadd hx hb d_La_law_572 ?_
        refine aw_ti (nI_add (6 * t) 2) ?_
        refine va_sld hx hb hX hbl hbA hS (i := (nI ((6 * t) + 2))) (vp_in_nI (by omega) (by omega)) d_La_law_573 ?_
        refine aw_ti (y := s2) (by rw [nI_clamp (by omega)]; exact hs2.symm) ?_
        obtain ⟨_, he229⟩ := zr_M0 hSh
        refine va_callv (va_runV (As := [.int (nI k), .int s2]) (rest := []) ⟨hx, hb, hml, hown, hG⟩ (k_Mo_put1V l D g ad N0 zG zO zX zY zA zB228 zM zI zL zK zN zF zQ k s2 (by omega)) (aw_wV 2 hG gw_12_18 gw_12_15 gw_0_10 gw_12_16 gw_12_17 rfl rfl hd_Mo_put ⟨Nat.le_of_ble_eq_true rfl, Nat.le_of_ble_eq_true rfl⟩) (ag_qV (va_recv hK hP rfl he229) hP hD hSh hU hS) rfl rfl hl.1 rfl (lv_room (Nat.le_of_ble_eq_true rfl)) d_La_law_574 ⟨by omega, by omega⟩) hS (fun _ _ h => h) (fun _ h => h) ?_
        clear hP hD hSh hS he229
        intro u8 t8 H locs ht _ _ hB _ _ hS
        obtain ⟨L, hP, hD, hSh⟩ := hB
        rw [ht] at hP
        clear ht
        obtain ⟨zI230, ezI230⟩ : ∃ z : Nat → Nat → Int32, v_Mo_put1V_zI zI k s2 = z := ⟨_, rfl⟩
        rw [ezI230] at hSh
        refine lv_goto (tgt := 837) hx hb d_La_law_577 (by decide) ?_
        refine lv_iinc (k := 5) (v := nI (6 * t + 6)) hx hb d_La_law_837 hl rfl (aw_inc (6 * t) 6 6 (by decide +kernel)) (by decide) rfl (fun ls hl => ?_)
        have hl : lv_has ls 8 [(4, .int (nI (6 * t + 6))), (5, .int (nI 0)), (0, .ref b), (1, .ref (aw_r ad 0)), (2, .ref (aw_m ad 0)), (3, .ref (aw_o ad))] := hl
        refine lv_goto (tgt := 23) hx hb d_La_law_840 (by decide) ?_
        have hl := lv_sub hl (l' := [(0, .ref b), (1, .ref (aw_r ad 0)), (2, .ref (aw_m ad 0)), (3, .ref (aw_o ad)), (4, .int (nI (6 * t + 6)))]) [2, 3, 4, 5, 0] rfl
        refine W.widen (k := 85 + (t + 1)) (n := 1246 + 6 * (t + 1)) (by omega) (by omega) ?_
        have hR : az_R zG zO zX zY zA zB228 zM zI230 zL := by
          subst ezI230 ezB228
          exact r_put1 hR hk
        exact ih (t + 1) zG zO zX zY zA zB228 zM zI230 zL zK zN (nI 0) zQ _ _ L ls (by omega) hP hD hSh hR hS (by first | exact hl | simpa [Nat.mul_add] using hl)
    · refine aw_ti (y := nI 8) (by rw [hs3]) ?_
      refine lv_tableIn (tgt := 580) (off := 540) hx hb d_La_law_40 (by decide +kernel) (by decide +kernel) (by decide +kernel) (by decide) ?_
      obtain ⟨p0, hp0⟩ : ∃ z : Int32, z = xs (6 * t + 1) := ⟨_, rfl⟩
      rcases aw_rng 64 (by decide) p0 with hc | ⟨k, hk, rfl⟩
      · refine lv_aload_n hx hb d_La_law_580 rfl (lv_at hl 1 rfl) ?_
        refine lv_aload_n hx hb d_La_law_581 rfl (lv_at hl 0 rfl) ?_
        refine lv_iload hx hb d_La_law_582 (lv_at hl 4 rfl) ?_
        refine lv_iconst (v := nI 1) hx hb d_La_law_584 (by decide +kernel) ?_
        refine lv_iadd hx hb d_La_law_585 ?_
        refine aw_ti (nI_add (6 * t) 1) ?_
        refine va_sld hx hb hX hbl hbA hS (i := (nI ((6 * t) + 1))) (vp_in_nI (by omega) (by omega)) d_La_law_586 ?_
        refine aw_ti (y := p0) (by rw [nI_clamp (by omega)]; exact hp0.symm) ?_
        refine lv_aload_n hx hb d_La_law_587 rfl (lv_at hl 3 rfl) ?_
        refine va_calli (vx_runSW (As := [.ref (aw_r ad 0), .int p0, .ref (aw_o ad)]) (rest := []) ⟨hx, hb, hml, hown, hG⟩ (k_La_getXV l hst D g ad N0 zG zO zX zY zA zB zM zI zL zK zN zF zQ p0 hc) (aw_wW 3 hG gw_7_35 gw_7_33 gw_0_0 gw_7_34 rfl rfl hd_La_get ⟨Nat.le_of_ble_eq_true rfl, Nat.le_of_ble_eq_true rfl⟩) (ag_qS hP hD hSh hU hS) rfl rfl hl.1 rfl (lv_room (Nat.le_of_ble_eq_true rfl)) d_La_law_588 ⟨by omega, by omega⟩) hS (fun _ _ h => h) (fun _ h => h) ?_
        clear hP hD hSh hS
        intro x231 u8 t8 H locs ht _ ex231 hB _ _ hS
        obtain ⟨L, hP, hD, hSh⟩ := hB
        rw [ht] at hP
        clear ht
        subst ex231
        refine lv_istore hx hb d_La_law_591 hl (by decide) rfl (fun ls hl => ?_)
        have hl : lv_has ls 8 [(5, .int (nI 1)), (0, .ref b), (1, .ref (aw_r ad 0)), (2, .ref (aw_m ad 0)), (3, .ref (aw_o ad)), (4, .int (nI (6 * t)))] := hl
        refine lv_aload_n hx hb d_La_law_593 rfl (lv_at hl 3 rfl) ?_
        refine lv_aload_n hx hb d_La_law_594 rfl (lv_at hl 1 rfl) ?_
        refine lv_iload hx hb d_La_law_595 (lv_at hl 5 rfl) ?_
        refine lv_iconst (v := nI 1) hx hb d_La_law_597 (by decide +kernel) ?_
        refine lv_iadd hx hb d_La_law_598 ?_
        refine aw_ti (nI_add (6 * t) 1) ?_
        refine va_sld hx hb hX hbl hbA hS (i := (nI ((6 * t) + 1))) (vp_in_nI (by omega) (by omega)) d_La_law_599 ?_
        refine aw_ti (y := p0) (by rw [nI_clamp (by omega)]; exact hp0.symm) ?_
        obtain ⟨_, he232⟩ := zr_M0 hSh
        refine va_calli (va_runV (As := [.int p0]) (rest := []) ⟨hx, hb, hml, hown, hG⟩ (k_Mo_getXV l D g ad N0 zG zO zX zY zA zB zM zI zL zK zN zF zQ p0 (aw_bnd 63 (by decide) hc)) (aw_wV 1 hG gw_12_22 gw_12_19 gw_0_10 gw_12_20 gw_12_21 rfl rfl hd_Mo_get ⟨Nat.le_of_ble_eq_true rfl, Nat.le_of_ble_eq_true rfl⟩) (ag_qV (va_recv hK hP rfl he232) hP hD hSh hU hS) rfl rfl hl.1 rfl (lv_room (Nat.le_of_ble_eq_true rfl)) d_La_law_600 ⟨by omega, by omega⟩) hS (fun _ _ h => h) (fun _ h => h) ?_
        clear hP hD hSh hS he232
        intro x233 u8 t8 H locs ht _ ex233 hB _ _ hS
        obtain ⟨L, hP, hD, hSh⟩ := hB
        rw [ht] at hP
        clear ht
        have ex233 := ex233.symm
        refine lv_istore hx hb d_La_law_603 hl (by decide) rfl (fun ls hl => ?_)
        have hl : lv_has ls 8 [(6, .int x233), (5, .int (nI 1)), (0, .ref b), (1, .ref (aw_r ad 0)), (2, .ref (aw_m ad 0)), (3, .ref (aw_o ad)), (4, .int (nI (6 * t)))] := hl
        refine lv_goto (tgt := 837) hx hb d_La_law_605 (by decide) ?_
        refine lv_iinc (k := 6) (v := nI (6 * t + 6)) hx hb d_La_law_837 hl rfl (aw_inc (6 * t) 6 6 (by decide +kernel)) (by decide) rfl (fun ls hl => ?_)
        have hl : lv_has ls 8 [(4, .int (nI (6 * t + 6))), (6, .int x233), (5, .int (nI 1)), (0, .ref b), (1, .ref (aw_r ad 0)), (2, .ref (aw_m ad 0)), (3, .ref (aw_o ad))] := hl
        refine lv_goto (tgt := 23) hx hb d_La_law_840 (by decide) ?_
        have hl := lv_sub hl (l' := [(0, .ref b), (1, .ref (aw_r ad 0)), (2, .ref (aw_m ad 0)), (3, .ref (aw_o ad)), (4, .int (nI (6 * t + 6)))]) [3, 4, 5, 6, 0] rfl
        refine W.widen (k := 85 + (t + 1)) (n := 1246 + 6 * (t + 1)) (by omega) (by omega) ?_
        exact ih (t + 1) zG zO zX zY zA zB zM zI zL zK zN (nI 1) zQ _ _ L ls (by omega) hP hD hSh hR hS (by first | exact hl | simpa [Nat.mul_add] using hl)
      · refine lv_aload_n hx hb d_La_law_580 rfl (lv_at hl 1 rfl) ?_
        refine lv_aload_n hx hb d_La_law_581 rfl (lv_at hl 0 rfl) ?_
        refine lv_iload hx hb d_La_law_582 (lv_at hl 4 rfl) ?_
        refine lv_iconst (v := nI 1) hx hb d_La_law_584 (by decide +kernel) ?_
        refine lv_iadd hx hb d_La_law_585 ?_
        refine aw_ti (nI_add (6 * t) 1) ?_
        refine va_sld hx hb hX hbl hbA hS (i := (nI ((6 * t) + 1))) (vp_in_nI (by omega) (by omega)) d_La_law_586 ?_
        refine aw_ti (y := nI k) (by rw [nI_clamp (by omega)]; exact hp0.symm) ?_
        refine lv_aload_n hx hb d_La_law_587 rfl (lv_at hl 3 rfl) ?_
        refine va_calli (vx_runSW (As := [.ref (aw_r ad 0), .int (nI k), .ref (aw_o ad)]) (rest := []) ⟨hx, hb, hml, hown, hG⟩ (k_La_get1V l hst D g ad N0 zG zO zX zY zA zB zM zI zL zK zN zF zQ k (by omega)) (aw_wW 3 hG gw_7_35 gw_7_33 gw_0_0 gw_7_34 rfl rfl hd_La_get ⟨Nat.le_of_ble_eq_true rfl, Nat.le_of_ble_eq_true rfl⟩) (ag_qS hP hD hSh hU hS) rfl rfl hl.1 rfl (lv_room (Nat.le_of_ble_eq_true rfl)) d_La_law_588 ⟨by omega, by omega⟩) hS (fun _ _ h => h) (fun _ h => h) ?_
        clear hP hD hSh hS
        intro x234 u8 t8 H locs ht _ ex234 hB _ _ hS
        obtain ⟨L, hP, hD, hSh⟩ := hB
        rw [ht] at hP
        clear ht
        subst ex234
        obtain ⟨zQ235, ezQ235⟩ : ∃ z : Int64, v_La_get1V_zQ zB k = z := ⟨_, rfl⟩
        rw [ezQ235] at hSh
        refine lv_istore hx hb d_La_law_591 hl (by decide) rfl (fun ls hl => ?_)
        have hl : lv_has ls 8 [(5, .int (nI 0)), (0, .ref b), (1, .ref (aw_r ad 0)), (2, .ref (aw_m ad 0)), (3, .ref (aw_o ad)), (4, .int (nI (6 * t)))] := hl
        refine lv_aload_n hx hb d_La_law_593 rfl (lv_at hl 3 rfl) ?_
        refine lv_aload_n hx hb d_La_law_594 rfl (lv_at hl 1 rfl) ?_
        refine lv_iload hx hb d_La_law_595 (lv_at hl 5 rfl) ?_
        refine lv_iconst (v := nI 1) hx hb d_La_law_597 (by decide +kernel) ?_
        refine lv_iadd hx hb d_La_law_598 ?_
        refine aw_ti (nI_add (6 * t) 1) ?_
        refine va_sld hx hb hX hbl hbA hS (i := (nI ((6 * t) + 1))) (vp_in_nI (by omega) (by omega)) d_La_law_599 ?_
        refine aw_ti (y := nI k) (by rw [nI_clamp (by omega)]; exact hp0.symm) ?_
        obtain ⟨_, he236⟩ := zr_M0 hSh
        refine va_calli (va_runV (As := [.int (nI k)]) (rest := []) ⟨hx, hb, hml, hown, hG⟩ (k_Mo_get1V l D g ad N0 zG zO zX zY zA zB zM zI zL zK zN zF zQ235 k (by omega)) (aw_wV 1 hG gw_12_22 gw_12_19 gw_0_10 gw_12_20 gw_12_21 rfl rfl hd_Mo_get ⟨Nat.le_of_ble_eq_true rfl, Nat.le_of_ble_eq_true rfl⟩) (ag_qV (va_recv hK hP rfl he236) hP hD hSh hU hS) rfl rfl hl.1 rfl (lv_room (Nat.le_of_ble_eq_true rfl)) d_La_law_600 ⟨by omega, by omega⟩) hS (fun _ _ h => h) (fun _ h => h) ?_
        clear hP hD hSh hS he236
        intro x237 u8 t8 H locs ht _ ex237 hB _ _ hS
        obtain ⟨L, hP, hD, hSh⟩ := hB
        rw [ht] at hP
        clear ht
        have ex237 := ex237.symm
        refine lv_istore hx hb d_La_law_603 hl (by decide) rfl (fun ls hl => ?_)
        have hl : lv_has ls 8 [(6, .int x237), (5, .int (nI 0)), (0, .ref b), (1, .ref (aw_r ad 0)), (2, .ref (aw_m ad 0)), (3, .ref (aw_o ad)), (4, .int (nI (6 * t)))] := hl
        refine lv_goto (tgt := 837) hx hb d_La_law_605 (by decide) ?_
        refine lv_iinc (k := 6) (v := nI (6 * t + 6)) hx hb d_La_law_837 hl rfl (aw_inc (6 * t) 6 6 (by decide +kernel)) (by decide) rfl (fun ls hl => ?_)
        have hl : lv_has ls 8 [(4, .int (nI (6 * t + 6))), (6, .int x237), (5, .int (nI 0)), (0, .ref b), (1, .ref (aw_r ad 0)), (2, .ref (aw_m ad 0)), (3, .ref (aw_o ad))] := hl
        refine lv_goto (tgt := 23) hx hb d_La_law_840 (by decide) ?_
        have hl := lv_sub hl (l' := [(0, .ref b), (1, .ref (aw_r ad 0)), (2, .ref (aw_m ad 0)), (3, .ref (aw_o ad)), (4, .int (nI (6 * t + 6)))]) [3, 4, 5, 6, 0] rfl
        refine W.widen (k := 85 + (t + 1)) (n := 1246 + 6 * (t + 1)) (by omega) (by omega) ?_
        exact ih (t + 1) zG zO zX zY zA zB zM zI zL zK zN (nI 0) zQ235 _ _ L ls (by omega) hP hD hSh hR hS (by first | exact hl | simpa [Nat.mul_add] using hl)
    · refine aw_ti (y := nI 9) (by rw [hs3]) ?_
      refine lv_tableIn (tgt := 608) (off := 568) hx hb d_La_law_40 (by decide +kernel) (by decide +kernel) (by decide +kernel) (by decide) ?_
      obtain ⟨c0, hc0⟩ : ∃ z : Int32, z = xs (6 * t + 1) := ⟨_, rfl⟩
      obtain ⟨s2, hs2⟩ : ∃ z : Int32, z = xs (6 * t + 2) := ⟨_, rfl⟩
      obtain ⟨fr, hfr⟩ : ∃ z : Int32, z = xs (6 * t + 3) := ⟨_, rfl⟩
      obtain ⟨m0, hm0⟩ : ∃ z : Int32, z = xs (6 * t + 4) := ⟨_, rfl⟩
      rcases aw_rng 4 (by decide) c0 with hc | ⟨j, hj, rfl⟩
      · refine lv_aload_n hx hb d_La_law_608 rfl (lv_at hl 1 rfl) ?_
        refine lv_aload_n hx hb d_La_law_609 rfl (lv_at hl 0 rfl) ?_
        refine lv_iload hx hb d_La_law_610 (lv_at hl 4 rfl) ?_
        refine lv_iconst (v := nI 1) hx hb d_La_law_612 (by decide +kernel) ?_
        refine lv_iadd hx hb d_La_law_613 ?_
        refine aw_ti (nI_add (6 * t) 1) ?_
        refine va_sld hx hb hX hbl hbA hS (i := (nI ((6 * t) + 1))) (vp_in_nI (by omega) (by omega)) d_La_law_614 ?_
        refine aw_ti (y := c0) (by rw [nI_clamp (by omega)]; exact hc0.symm) ?_
        refine lv_aload_n hx hb d_La_law_615 rfl (lv_at hl 0 rfl) ?_
        refine lv_iload hx hb d_La_law_616 (lv_at hl 4 rfl) ?_
        refine lv_iconst (v := nI 2) hx hb d_La_law_618 (by decide +kernel) ?_
        refine lv_iadd hx hb d_La_law_619 ?_
        refine aw_ti (nI_add (6 * t) 2) ?_
        refine va_sld hx hb hX hbl hbA hS (i := (nI ((6 * t) + 2))) (vp_in_nI (by omega) (by omega)) d_La_law_620 ?_
        refine aw_ti (y := s2) (by rw [nI_clamp (by omega)]; exact hs2.symm) ?_
        have hj238 : ∀ x239 : Int32, (if s2 = 0 then nI 0 else nI 1) = x239 → W p l e room_1 s m #[Value.ref b] below meth c H locs (85 + t) (1246 + 6 * t) (lw_Z below #[Value.ref b] s) (F0 m 629 ls [.int x239, .int c0, .ref (aw_r ad 0)]) := by
          intro x239 ebx239
          refine lv_aload_n hx hb d_La_law_629 rfl (lv_at hl 0 rfl) ?_
          refine lv_iload hx hb d_La_law_630 (lv_at hl 4 rfl) ?_
          refine lv_iconst (v := nI 3) hx hb d_La_law_632 (by decide +kernel) ?_
          refine lv_iadd hx hb d_La_law_633 ?_
          refine aw_ti (nI_add (6 * t) 3) ?_
          refine va_sld hx hb hX hbl hbA hS (i := (nI ((6 * t) + 3))) (vp_in_nI (by omega) (by omega)) d_La_law_634 ?_
          refine aw_ti (y := fr) (by rw [nI_clamp (by omega)]; exact hfr.symm) ?_
          refine lv_aload_n hx hb d_La_law_635 rfl (lv_at hl 0 rfl) ?_
          refine lv_iload hx hb d_La_law_636 (lv_at hl 4 rfl) ?_
          refine lv_iconst (v := nI 4) hx hb d_La_law_638 (by decide +kernel) ?_
          refine lv_iadd hx hb d_La_law_639 ?_
          refine aw_ti (nI_add (6 * t) 4) ?_
          refine va_sld hx hb hX hbl hbA hS (i := (nI ((6 * t) + 4))) (vp_in_nI (by omega) (by omega)) d_La_law_640 ?_
          refine aw_ti (y := m0) (by rw [nI_clamp (by omega)]; exact hm0.symm) ?_
          refine lv_aload_n hx hb d_La_law_641 rfl (lv_at hl 3 rfl) ?_
          refine va_calli (vx_runSW (As := [.ref (aw_r ad 0), .int c0, .int x239, .int fr, .int m0, .ref (aw_o ad)]) (rest := []) ⟨hx, hb, hml, hown, hG⟩ (k_La_feedXcV l hst D g ad N0 zG zO zX zY zA zB zM zI zL zK zN zF zQ c0 x239 fr m0 hc) (aw_wW 6 hG gw_7_42 gw_7_40 gw_0_0 gw_7_41 rfl rfl hd_La_feed ⟨Nat.le_of_ble_eq_true rfl, Nat.le_of_ble_eq_true rfl⟩) (ag_qS hP hD hSh hU hS) rfl rfl hl.1 rfl (lv_room (Nat.le_of_ble_eq_true rfl)) d_La_law_642 ⟨by omega, by omega⟩) hS (fun _ _ h => h) (fun _ h => h) ?_
          clear hP hD hSh hS
          intro x240 u8 t8 H locs ht _ ex240 hB _ _ hS
          obtain ⟨L, hP, hD, hSh⟩ := hB
          rw [ht] at hP
          clear ht
          subst ex240
          refine lv_istore hx hb d_La_law_645 hl (by decide) rfl (fun ls hl => ?_)
          have hl : lv_has ls 8 [(5, .int (nI 1)), (0, .ref b), (1, .ref (aw_r ad 0)), (2, .ref (aw_m ad 0)), (3, .ref (aw_o ad)), (4, .int (nI (6 * t)))] := hl
          refine lv_aload_n hx hb d_La_law_647 rfl (lv_at hl 3 rfl) ?_
          refine lv_aload_n hx hb d_La_law_648 rfl (lv_at hl 1 rfl) ?_
          refine lv_iload hx hb d_La_law_649 (lv_at hl 5 rfl) ?_
          refine lv_iconst (v := nI 1) hx hb d_La_law_651 (by decide +kernel) ?_
          refine lv_iadd hx hb d_La_law_652 ?_
          refine aw_ti (nI_add (6 * t) 1) ?_
          refine va_sld hx hb hX hbl hbA hS (i := (nI ((6 * t) + 1))) (vp_in_nI (by omega) (by omega)) d_La_law_653 ?_
          refine aw_ti (y := c0) (by rw [nI_clamp (by omega)]; exact hc0.symm) ?_
          refine lv_aload_n hx hb d_La_law_654 rfl (lv_at hl 1 rfl) ?_
          refine lv_iload hx hb d_La_law_655 (lv_at hl 5 rfl) ?_
          refine lv_iconst (v := nI 2) hx hb d_La_law_657 (by decide +kernel) ?_
          refine lv_iadd hx hb d_La_law_658 ?_
          refine aw_ti (nI_add (6 * t) 2) ?_
          refine va_sld hx hb hX hbl hbA hS (i := (nI ((6 * t) + 2))) (vp_in_nI (by omega) (by omega)) d_La_law_659 ?_
          refine aw_ti (y := s2) (by rw [nI_clamp (by omega)]; exact hs2.symm) ?_
          have hj241 : ∀ x242 : Int32, (if s2 = 0 then nI 0 else nI 1) = x242 → W p l e room_1 s m #[Value.ref b] below meth c H locs ((85 + t) + 1) ((1246 + 6 * t) + 6) (lw_Z below #[Value.ref b] s) (F0 m 668 ls [.int x242, .int c0, .ref (aw_m ad 0)]) := by
            intro x242 ebx242
            refine lv_aload_n hx hb d_La_law_668 rfl (lv_at hl 1 rfl) ?_
            refine lv_iload hx hb d_La_law_669 (lv_at hl 5 rfl) ?_
            refine lv_iconst (v := nI 3) hx hb d_La_law_671 (by decide +kernel) ?_
            refine lv_iadd hx hb d_La_law_672 ?_
            refine aw_ti (nI_add (6 * t) 3) ?_
            refine va_sld hx hb hX hbl hbA hS (i := (nI ((6 * t) + 3))) (vp_in_nI (by omega) (by omega)) d_La_law_673 ?_
            refine aw_ti (y := fr) (by rw [nI_clamp (by omega)]; exact hfr.symm) ?_
            refine lv_aload_n hx hb d_La_law_674 rfl (lv_at hl 1 rfl) ?_
            refine lv_iload hx hb d_La_law_675 (lv_at hl 5 rfl) ?_
            refine lv_iconst (v := nI 4) hx hb d_La_law_677 (by decide +kernel) ?_
            refine lv_iadd hx hb d_La_law_678 ?_
            refine aw_ti (nI_add (6 * t) 4) ?_
            refine va_sld hx hb hX hbl hbA hS (i := (nI ((6 * t) + 4))) (vp_in_nI (by omega) (by omega)) d_La_law_679 ?_
            refine aw_ti (y := m0) (by rw [nI_clamp (by omega)]; exact hm0.symm) ?_
            obtain ⟨_, he243⟩ := zr_M0 hSh
            refine va_calli (va_runV (As := [.int c0, .int x242, .int fr, .int m0]) (rest := []) ⟨hx, hb, hml, hown, hG⟩ (k_Mo_feedXcV l D g ad N0 zG zO zX zY zA zB zM zI zL zK zN zF zQ c0 x242 fr m0 hc) (aw_wV 4 hG gw_12_26 gw_12_23 gw_0_10 gw_12_24 gw_12_25 rfl rfl hd_Mo_feed ⟨Nat.le_of_ble_eq_true rfl, Nat.le_of_ble_eq_true rfl⟩) (ag_qV (va_recv hK hP rfl he243) hP hD hSh hU hS) rfl rfl hl.1 rfl (lv_room (Nat.le_of_ble_eq_true rfl)) d_La_law_680 ⟨by omega, by omega⟩) hS (fun _ _ h => h) (fun _ h => h) ?_
            clear hP hD hSh hS he243
            intro x244 u8 t8 H locs ht _ ex244 hB _ _ hS
            obtain ⟨L, hP, hD, hSh⟩ := hB
            rw [ht] at hP
            clear ht
            have ex244 := ex244.symm
            refine lv_istore hx hb d_La_law_683 hl (by decide) rfl (fun ls hl => ?_)
            have hl : lv_has ls 8 [(6, .int x244), (5, .int (nI 1)), (0, .ref b), (1, .ref (aw_r ad 0)), (2, .ref (aw_m ad 0)), (3, .ref (aw_o ad)), (4, .int (nI (6 * t)))] := hl
            refine lv_goto (tgt := 837) hx hb d_La_law_685 (by decide) ?_
            refine lv_iinc (k := 6) (v := nI (6 * t + 6)) hx hb d_La_law_837 hl rfl (aw_inc (6 * t) 6 6 (by decide +kernel)) (by decide) rfl (fun ls hl => ?_)
            have hl : lv_has ls 8 [(4, .int (nI (6 * t + 6))), (6, .int x244), (5, .int (nI 1)), (0, .ref b), (1, .ref (aw_r ad 0)), (2, .ref (aw_m ad 0)), (3, .ref (aw_o ad))] := hl
            refine lv_goto (tgt := 23) hx hb d_La_law_840 (by decide) ?_
            have hl := lv_sub hl (l' := [(0, .ref b), (1, .ref (aw_r ad 0)), (2, .ref (aw_m ad 0)), (3, .ref (aw_o ad)), (4, .int (nI (6 * t + 6)))]) [3, 4, 5, 6, 0] rfl
            refine W.widen (k := 85 + (t + 1)) (n := 1246 + 6 * (t + 1)) (by omega) (by omega) ?_
            exact ih (t + 1) zG zO zX zY zA zB zM zI zL zK zN (nI 1) zQ _ _ L ls (by omega) hP hD hSh hR hS (by first | exact hl | simpa [Nat.mul_add] using hl)
          refine lv_if_eq (tgt := 667) hx hb d_La_law_660 (by decide) (fun h9 => ?_) (fun h9 => ?_)
          · refine lv_iconst (v := nI 0) hx hb d_La_law_667 (by decide +kernel) ?_
            exact hj241 _ (if_pos h9)
          · refine lv_iconst (v := nI 1) hx hb d_La_law_663 (by decide +kernel) ?_
            refine lv_goto (tgt := 668) hx hb d_La_law_664 (by decide) ?_
            exact hj241 _ (if_neg h9)
        refine lv_if_eq (tgt := 628) hx hb d_La_law_621 (by decide) (fun h9 => ?_) (fun h9 => ?_)
        · refine lv_iconst (v := nI 0) hx hb d_La_law_628 (by decide +kernel) ?_
          exact hj238 _ (if_pos h9)
        · refine lv_iconst (v := nI 1) hx hb d_La_law_624 (by decide +kernel) ?_
          refine lv_goto (tgt := 629) hx hb d_La_law_625 (by decide) ?_
          exact hj238 _ (if_neg h9)
      · have hgj := hSh.2.2.2.2.1 j hj
        have hq1 : (zM j).1 = (zG j).1 := by rw [hR.1 j hj]
        have hq2 : (zM j).2 = (zG j).2 := by rw [hR.1 j hj]
        rcases aw_buf fr m0 with hi | rfl | ⟨k, mm, rfl, rfl, h0, hk⟩
        · have hi2 := aw_bp hi
          refine lv_aload_n hx hb d_La_law_608 rfl (lv_at hl 1 rfl) ?_
          refine lv_aload_n hx hb d_La_law_609 rfl (lv_at hl 0 rfl) ?_
          refine lv_iload hx hb d_La_law_610 (lv_at hl 4 rfl) ?_
          refine lv_iconst (v := nI 1) hx hb d_La_law_612 (by decide +kernel) ?_
          refine lv_iadd hx hb d_La_law_613 ?_
          refine aw_ti (nI_add (6 * t) 1) ?_
          refine va_sld hx hb hX hbl hbA hS (i := (nI ((6 * t) + 1))) (vp_in_nI (by omega) (by omega)) d_La_law_614 ?_
          refine aw_ti (y := nI j) (by rw [nI_clamp (by omega)]; exact hc0.symm) ?_
          refine lv_aload_n hx hb d_La_law_615 rfl (lv_at hl 0 rfl) ?_
          refine lv_iload hx hb d_La_law_616 (lv_at hl 4 rfl) ?_
          refine lv_iconst (v := nI 2) hx hb d_La_law_618 (by decide +kernel) ?_
          refine lv_iadd hx hb d_La_law_619 ?_
          refine aw_ti (nI_add (6 * t) 2) ?_
          refine va_sld hx hb hX hbl hbA hS (i := (nI ((6 * t) + 2))) (vp_in_nI (by omega) (by omega)) d_La_law_620 ?_
          refine aw_ti (y := s2) (by rw [nI_clamp (by omega)]; exact hs2.symm) ?_
          have hj245 : ∀ x246 : Int32, (if s2 = 0 then nI 0 else nI 1) = x246 → W p l e room_1 s m #[Value.ref b] below meth c H locs (85 + t) (1246 + 6 * t) (lw_Z below #[Value.ref b] s) (F0 m 629 ls [.int x246, .int (nI j), .ref (aw_r ad 0)]) := by
            intro x246 ebx246
            refine lv_aload_n hx hb d_La_law_629 rfl (lv_at hl 0 rfl) ?_
            refine lv_iload hx hb d_La_law_630 (lv_at hl 4 rfl) ?_
            refine lv_iconst (v := nI 3) hx hb d_La_law_632 (by decide +kernel) ?_
            refine lv_iadd hx hb d_La_law_633 ?_
            refine aw_ti (nI_add (6 * t) 3) ?_
            refine va_sld hx hb hX hbl hbA hS (i := (nI ((6 * t) + 3))) (vp_in_nI (by omega) (by omega)) d_La_law_634 ?_
            refine aw_ti (y := fr) (by rw [nI_clamp (by omega)]; exact hfr.symm) ?_
            refine lv_aload_n hx hb d_La_law_635 rfl (lv_at hl 0 rfl) ?_
            refine lv_iload hx hb d_La_law_636 (lv_at hl 4 rfl) ?_
            refine lv_iconst (v := nI 4) hx hb d_La_law_638 (by decide +kernel) ?_
            refine lv_iadd hx hb d_La_law_639 ?_
            refine aw_ti (nI_add (6 * t) 4) ?_
            refine va_sld hx hb hX hbl hbA hS (i := (nI ((6 * t) + 4))) (vp_in_nI (by omega) (by omega)) d_La_law_640 ?_
            refine aw_ti (y := m0) (by rw [nI_clamp (by omega)]; exact hm0.symm) ?_
            refine lv_aload_n hx hb d_La_law_641 rfl (lv_at hl 3 rfl) ?_
            refine va_calli (vx_runSW (As := [.ref (aw_r ad 0), .int (nI j), .int x246, .int fr, .int m0, .ref (aw_o ad)]) (rest := []) ⟨hx, hb, hml, hown, hG⟩ (k_La_feedXbV l hst D g ad N0 zG zO zX zY zA zB zM zI zL zK zN zF zQ j x246 fr m0 hj hi) (aw_wW 6 hG gw_7_42 gw_7_40 gw_0_0 gw_7_41 rfl rfl hd_La_feed ⟨Nat.le_of_ble_eq_true rfl, Nat.le_of_ble_eq_true rfl⟩) (ag_qS hP hD hSh hU hS) rfl rfl hl.1 rfl (lv_room (Nat.le_of_ble_eq_true rfl)) d_La_law_642 ⟨by omega, by omega⟩) hS (fun _ _ h => h) (fun _ h => h) ?_
            clear hP hD hSh hS
            intro x247 u8 t8 H locs ht _ ex247 hB _ _ hS
            obtain ⟨L, hP, hD, hSh⟩ := hB
            rw [ht] at hP
            clear ht
            subst ex247
            refine lv_istore hx hb d_La_law_645 hl (by decide) rfl (fun ls hl => ?_)
            have hl : lv_has ls 8 [(5, .int (nI 1)), (0, .ref b), (1, .ref (aw_r ad 0)), (2, .ref (aw_m ad 0)), (3, .ref (aw_o ad)), (4, .int (nI (6 * t)))] := hl
            refine lv_aload_n hx hb d_La_law_647 rfl (lv_at hl 3 rfl) ?_
            refine lv_aload_n hx hb d_La_law_648 rfl (lv_at hl 1 rfl) ?_
            refine lv_iload hx hb d_La_law_649 (lv_at hl 5 rfl) ?_
            refine lv_iconst (v := nI 1) hx hb d_La_law_651 (by decide +kernel) ?_
            refine lv_iadd hx hb d_La_law_652 ?_
            refine aw_ti (nI_add (6 * t) 1) ?_
            refine va_sld hx hb hX hbl hbA hS (i := (nI ((6 * t) + 1))) (vp_in_nI (by omega) (by omega)) d_La_law_653 ?_
            refine aw_ti (y := nI j) (by rw [nI_clamp (by omega)]; exact hc0.symm) ?_
            refine lv_aload_n hx hb d_La_law_654 rfl (lv_at hl 1 rfl) ?_
            refine lv_iload hx hb d_La_law_655 (lv_at hl 5 rfl) ?_
            refine lv_iconst (v := nI 2) hx hb d_La_law_657 (by decide +kernel) ?_
            refine lv_iadd hx hb d_La_law_658 ?_
            refine aw_ti (nI_add (6 * t) 2) ?_
            refine va_sld hx hb hX hbl hbA hS (i := (nI ((6 * t) + 2))) (vp_in_nI (by omega) (by omega)) d_La_law_659 ?_
            refine aw_ti (y := s2) (by rw [nI_clamp (by omega)]; exact hs2.symm) ?_
            have hj248 : ∀ x249 : Int32, (if s2 = 0 then nI 0 else nI 1) = x249 → W p l e room_1 s m #[Value.ref b] below meth c H locs ((85 + t) + 1) ((1246 + 6 * t) + 6) (lw_Z below #[Value.ref b] s) (F0 m 668 ls [.int x249, .int (nI j), .ref (aw_m ad 0)]) := by
              intro x249 ebx249
              refine lv_aload_n hx hb d_La_law_668 rfl (lv_at hl 1 rfl) ?_
              refine lv_iload hx hb d_La_law_669 (lv_at hl 5 rfl) ?_
              refine lv_iconst (v := nI 3) hx hb d_La_law_671 (by decide +kernel) ?_
              refine lv_iadd hx hb d_La_law_672 ?_
              refine aw_ti (nI_add (6 * t) 3) ?_
              refine va_sld hx hb hX hbl hbA hS (i := (nI ((6 * t) + 3))) (vp_in_nI (by omega) (by omega)) d_La_law_673 ?_
              refine aw_ti (y := fr) (by rw [nI_clamp (by omega)]; exact hfr.symm) ?_
              refine lv_aload_n hx hb d_La_law_674 rfl (lv_at hl 1 rfl) ?_
              refine lv_iload hx hb d_La_law_675 (lv_at hl 5 rfl) ?_
              refine lv_iconst (v := nI 4) hx hb d_La_law_677 (by decide +kernel) ?_
              refine lv_iadd hx hb d_La_law_678 ?_
              refine aw_ti (nI_add (6 * t) 4) ?_
              refine va_sld hx hb hX hbl hbA hS (i := (nI ((6 * t) + 4))) (vp_in_nI (by omega) (by omega)) d_La_law_679 ?_
              refine aw_ti (y := m0) (by rw [nI_clamp (by omega)]; exact hm0.symm) ?_
              obtain ⟨_, he250⟩ := zr_M0 hSh
              refine va_calli (va_runV (As := [.int (nI j), .int x249, .int fr, .int m0]) (rest := []) ⟨hx, hb, hml, hown, hG⟩ (k_Mo_feedXbV l D g ad N0 zG zO zX zY zA zB zM zI zL zK zN zF zQ j x249 fr m0 hj hi2) (aw_wV 4 hG gw_12_26 gw_12_23 gw_0_10 gw_12_24 gw_12_25 rfl rfl hd_Mo_feed ⟨Nat.le_of_ble_eq_true rfl, Nat.le_of_ble_eq_true rfl⟩) (ag_qV (va_recv hK hP rfl he250) hP hD hSh hU hS) rfl rfl hl.1 rfl (lv_room (Nat.le_of_ble_eq_true rfl)) d_La_law_680 ⟨by omega, by omega⟩) hS (fun _ _ h => h) (fun _ h => h) ?_
              clear hP hD hSh hS he250
              intro x251 u8 t8 H locs ht _ ex251 hB _ _ hS
              obtain ⟨L, hP, hD, hSh⟩ := hB
              rw [ht] at hP
              clear ht
              have ex251 := ex251.symm
              refine lv_istore hx hb d_La_law_683 hl (by decide) rfl (fun ls hl => ?_)
              have hl : lv_has ls 8 [(6, .int x251), (5, .int (nI 1)), (0, .ref b), (1, .ref (aw_r ad 0)), (2, .ref (aw_m ad 0)), (3, .ref (aw_o ad)), (4, .int (nI (6 * t)))] := hl
              refine lv_goto (tgt := 837) hx hb d_La_law_685 (by decide) ?_
              refine lv_iinc (k := 6) (v := nI (6 * t + 6)) hx hb d_La_law_837 hl rfl (aw_inc (6 * t) 6 6 (by decide +kernel)) (by decide) rfl (fun ls hl => ?_)
              have hl : lv_has ls 8 [(4, .int (nI (6 * t + 6))), (6, .int x251), (5, .int (nI 1)), (0, .ref b), (1, .ref (aw_r ad 0)), (2, .ref (aw_m ad 0)), (3, .ref (aw_o ad))] := hl
              refine lv_goto (tgt := 23) hx hb d_La_law_840 (by decide) ?_
              have hl := lv_sub hl (l' := [(0, .ref b), (1, .ref (aw_r ad 0)), (2, .ref (aw_m ad 0)), (3, .ref (aw_o ad)), (4, .int (nI (6 * t + 6)))]) [3, 4, 5, 6, 0] rfl
              refine W.widen (k := 85 + (t + 1)) (n := 1246 + 6 * (t + 1)) (by omega) (by omega) ?_
              exact ih (t + 1) zG zO zX zY zA zB zM zI zL zK zN (nI 1) zQ _ _ L ls (by omega) hP hD hSh hR hS (by first | exact hl | simpa [Nat.mul_add] using hl)
            refine lv_if_eq (tgt := 667) hx hb d_La_law_660 (by decide) (fun h9 => ?_) (fun h9 => ?_)
            · refine lv_iconst (v := nI 0) hx hb d_La_law_667 (by decide +kernel) ?_
              exact hj248 _ (if_pos h9)
            · refine lv_iconst (v := nI 1) hx hb d_La_law_663 (by decide +kernel) ?_
              refine lv_goto (tgt := 668) hx hb d_La_law_664 (by decide) ?_
              exact hj248 _ (if_neg h9)
          refine lv_if_eq (tgt := 628) hx hb d_La_law_621 (by decide) (fun h9 => ?_) (fun h9 => ?_)
          · refine lv_iconst (v := nI 0) hx hb d_La_law_628 (by decide +kernel) ?_
            exact hj245 _ (if_pos h9)
          · refine lv_iconst (v := nI 1) hx hb d_La_law_624 (by decide +kernel) ?_
            refine lv_goto (tgt := 629) hx hb d_La_law_625 (by decide) ?_
            exact hj245 _ (if_neg h9)
        · rcases aw_p0f fr with hi | ⟨k, rfl, hk⟩
          · by_cases hs : (zG j).1 = 3
            · by_cases h5 : (zG j).2 = 5
              · refine lv_aload_n hx hb d_La_law_608 rfl (lv_at hl 1 rfl) ?_
                refine lv_aload_n hx hb d_La_law_609 rfl (lv_at hl 0 rfl) ?_
                refine lv_iload hx hb d_La_law_610 (lv_at hl 4 rfl) ?_
                refine lv_iconst (v := nI 1) hx hb d_La_law_612 (by decide +kernel) ?_
                refine lv_iadd hx hb d_La_law_613 ?_
                refine aw_ti (nI_add (6 * t) 1) ?_
                refine va_sld hx hb hX hbl hbA hS (i := (nI ((6 * t) + 1))) (vp_in_nI (by omega) (by omega)) d_La_law_614 ?_
                refine aw_ti (y := nI j) (by rw [nI_clamp (by omega)]; exact hc0.symm) ?_
                refine lv_aload_n hx hb d_La_law_615 rfl (lv_at hl 0 rfl) ?_
                refine lv_iload hx hb d_La_law_616 (lv_at hl 4 rfl) ?_
                refine lv_iconst (v := nI 2) hx hb d_La_law_618 (by decide +kernel) ?_
                refine lv_iadd hx hb d_La_law_619 ?_
                refine aw_ti (nI_add (6 * t) 2) ?_
                refine va_sld hx hb hX hbl hbA hS (i := (nI ((6 * t) + 2))) (vp_in_nI (by omega) (by omega)) d_La_law_620 ?_
                refine aw_ti (y := s2) (by rw [nI_clamp (by omega)]; exact hs2.symm) ?_
                have hj252 : ∀ x253 : Int32, (if s2 = 0 then nI 0 else nI 1) = x253 → W p l e room_1 s m #[Value.ref b] below meth c H locs (85 + t) (1246 + 6 * t) (lw_Z below #[Value.ref b] s) (F0 m 629 ls [.int x253, .int (nI j), .ref (aw_r ad 0)]) := by
                  intro x253 ebx253
                  refine lv_aload_n hx hb d_La_law_629 rfl (lv_at hl 0 rfl) ?_
                  refine lv_iload hx hb d_La_law_630 (lv_at hl 4 rfl) ?_
                  refine lv_iconst (v := nI 3) hx hb d_La_law_632 (by decide +kernel) ?_
                  refine lv_iadd hx hb d_La_law_633 ?_
                  refine aw_ti (nI_add (6 * t) 3) ?_
                  refine va_sld hx hb hX hbl hbA hS (i := (nI ((6 * t) + 3))) (vp_in_nI (by omega) (by omega)) d_La_law_634 ?_
                  refine aw_ti (y := fr) (by rw [nI_clamp (by omega)]; exact hfr.symm) ?_
                  refine lv_aload_n hx hb d_La_law_635 rfl (lv_at hl 0 rfl) ?_
                  refine lv_iload hx hb d_La_law_636 (lv_at hl 4 rfl) ?_
                  refine lv_iconst (v := nI 4) hx hb d_La_law_638 (by decide +kernel) ?_
                  refine lv_iadd hx hb d_La_law_639 ?_
                  refine aw_ti (nI_add (6 * t) 4) ?_
                  refine va_sld hx hb hX hbl hbA hS (i := (nI ((6 * t) + 4))) (vp_in_nI (by omega) (by omega)) d_La_law_640 ?_
                  refine aw_ti (y := nI 0) (by rw [nI_clamp (by omega)]; exact hm0.symm) ?_
                  refine lv_aload_n hx hb d_La_law_641 rfl (lv_at hl 3 rfl) ?_
                  refine va_calli (vx_runSW (As := [.ref (aw_r ad 0), .int (nI j), .int x253, .int fr, .int (nI 0), .ref (aw_o ad)]) (rest := []) ⟨hx, hb, hml, hown, hG⟩ (k_La_feedXs0V l hst D g ad N0 zG zO zX zY zA zB zM zI zL zK zN zF zQ j x253 fr hj (by omega)) (aw_wW 6 hG gw_7_42 gw_7_40 gw_0_0 gw_7_41 rfl rfl hd_La_feed ⟨Nat.le_of_ble_eq_true rfl, Nat.le_of_ble_eq_true rfl⟩) (ag_qS hP hD hSh hU hS) rfl rfl hl.1 rfl (lv_room (Nat.le_of_ble_eq_true rfl)) d_La_law_642 ⟨by omega, by omega⟩) hS (fun _ _ h => h) (fun _ h => h) ?_
                  clear hP hD hSh hS
                  intro x254 u8 t8 H locs ht _ ex254 hB _ _ hS
                  obtain ⟨L, hP, hD, hSh⟩ := hB
                  rw [ht] at hP
                  clear ht
                  subst ex254
                  refine lv_istore hx hb d_La_law_645 hl (by decide) rfl (fun ls hl => ?_)
                  have hl : lv_has ls 8 [(5, .int (nI 2)), (0, .ref b), (1, .ref (aw_r ad 0)), (2, .ref (aw_m ad 0)), (3, .ref (aw_o ad)), (4, .int (nI (6 * t)))] := hl
                  refine lv_aload_n hx hb d_La_law_647 rfl (lv_at hl 3 rfl) ?_
                  refine lv_aload_n hx hb d_La_law_648 rfl (lv_at hl 1 rfl) ?_
                  refine lv_iload hx hb d_La_law_649 (lv_at hl 5 rfl) ?_
                  refine lv_iconst (v := nI 1) hx hb d_La_law_651 (by decide +kernel) ?_
                  refine lv_iadd hx hb d_La_law_652 ?_
                  refine aw_ti (nI_add (6 * t) 1) ?_
                  refine va_sld hx hb hX hbl hbA hS (i := (nI ((6 * t) + 1))) (vp_in_nI (by omega) (by omega)) d_La_law_653 ?_
                  refine aw_ti (y := nI j) (by rw [nI_clamp (by omega)]; exact hc0.symm) ?_
                  refine lv_aload_n hx hb d_La_law_654 rfl (lv_at hl 1 rfl) ?_
                  refine lv_iload hx hb d_La_law_655 (lv_at hl 5 rfl) ?_
                  refine lv_iconst (v := nI 2) hx hb d_La_law_657 (by decide +kernel) ?_
                  refine lv_iadd hx hb d_La_law_658 ?_
                  refine aw_ti (nI_add (6 * t) 2) ?_
                  refine va_sld hx hb hX hbl hbA hS (i := (nI ((6 * t) + 2))) (vp_in_nI (by omega) (by omega)) d_La_law_659 ?_
                  refine aw_ti (y := s2) (by rw [nI_clamp (by omega)]; exact hs2.symm) ?_
                  have hj255 : ∀ x256 : Int32, (if s2 = 0 then nI 0 else nI 1) = x256 → W p l e room_1 s m #[Value.ref b] below meth c H locs ((85 + t) + 1) ((1246 + 6 * t) + 6) (lw_Z below #[Value.ref b] s) (F0 m 668 ls [.int x256, .int (nI j), .ref (aw_m ad 0)]) := by
                    intro x256 ebx256
                    refine lv_aload_n hx hb d_La_law_668 rfl (lv_at hl 1 rfl) ?_
                    refine lv_iload hx hb d_La_law_669 (lv_at hl 5 rfl) ?_
                    refine lv_iconst (v := nI 3) hx hb d_La_law_671 (by decide +kernel) ?_
                    refine lv_iadd hx hb d_La_law_672 ?_
                    refine aw_ti (nI_add (6 * t) 3) ?_
                    refine va_sld hx hb hX hbl hbA hS (i := (nI ((6 * t) + 3))) (vp_in_nI (by omega) (by omega)) d_La_law_673 ?_
                    refine aw_ti (y := fr) (by rw [nI_clamp (by omega)]; exact hfr.symm) ?_
                    refine lv_aload_n hx hb d_La_law_674 rfl (lv_at hl 1 rfl) ?_
                    refine lv_iload hx hb d_La_law_675 (lv_at hl 5 rfl) ?_
                    refine lv_iconst (v := nI 4) hx hb d_La_law_677 (by decide +kernel) ?_
                    refine lv_iadd hx hb d_La_law_678 ?_
                    refine aw_ti (nI_add (6 * t) 4) ?_
                    refine va_sld hx hb hX hbl hbA hS (i := (nI ((6 * t) + 4))) (vp_in_nI (by omega) (by omega)) d_La_law_679 ?_
                    refine aw_ti (y := nI 0) (by rw [nI_clamp (by omega)]; exact hm0.symm) ?_
                    obtain ⟨_, he257⟩ := zr_M0 hSh
                    refine va_calli (va_runV (As := [.int (nI j), .int x256, .int fr, .int (nI 0)]) (rest := []) ⟨hx, hb, hml, hown, hG⟩ (k_Mo_feedXbV l D g ad N0 zG zO zX zY zA zB zM zI zL zK zN zF zQ j x256 fr (nI 0) hj hi) (aw_wV 4 hG gw_12_26 gw_12_23 gw_0_10 gw_12_24 gw_12_25 rfl rfl hd_Mo_feed ⟨Nat.le_of_ble_eq_true rfl, Nat.le_of_ble_eq_true rfl⟩) (ag_qV (va_recv hK hP rfl he257) hP hD hSh hU hS) rfl rfl hl.1 rfl (lv_room (Nat.le_of_ble_eq_true rfl)) d_La_law_680 ⟨by omega, by omega⟩) hS (fun _ _ h => h) (fun _ h => h) ?_
                    clear hP hD hSh hS he257
                    intro x258 u8 t8 H locs ht _ ex258 hB _ _ hS
                    obtain ⟨L, hP, hD, hSh⟩ := hB
                    rw [ht] at hP
                    clear ht
                    have ex258 := ex258.symm
                    refine lv_istore hx hb d_La_law_683 hl (by decide) rfl (fun ls hl => ?_)
                    have hl : lv_has ls 8 [(6, .int x258), (5, .int (nI 2)), (0, .ref b), (1, .ref (aw_r ad 0)), (2, .ref (aw_m ad 0)), (3, .ref (aw_o ad)), (4, .int (nI (6 * t)))] := hl
                    refine lv_goto (tgt := 837) hx hb d_La_law_685 (by decide) ?_
                    refine lv_iinc (k := 6) (v := nI (6 * t + 6)) hx hb d_La_law_837 hl rfl (aw_inc (6 * t) 6 6 (by decide +kernel)) (by decide) rfl (fun ls hl => ?_)
                    have hl : lv_has ls 8 [(4, .int (nI (6 * t + 6))), (6, .int x258), (5, .int (nI 2)), (0, .ref b), (1, .ref (aw_r ad 0)), (2, .ref (aw_m ad 0)), (3, .ref (aw_o ad))] := hl
                    refine lv_goto (tgt := 23) hx hb d_La_law_840 (by decide) ?_
                    have hl := lv_sub hl (l' := [(0, .ref b), (1, .ref (aw_r ad 0)), (2, .ref (aw_m ad 0)), (3, .ref (aw_o ad)), (4, .int (nI (6 * t + 6)))]) [3, 4, 5, 6, 0] rfl
                    refine W.widen (k := 85 + (t + 1)) (n := 1246 + 6 * (t + 1)) (by omega) (by omega) ?_
                    exact ih (t + 1) zG zO zX zY zA zB zM zI zL zK zN (nI 1) zQ _ _ L ls (by omega) hP hD hSh hR hS (by first | exact hl | simpa [Nat.mul_add] using hl)
                  refine lv_if_eq (tgt := 667) hx hb d_La_law_660 (by decide) (fun h9 => ?_) (fun h9 => ?_)
                  · refine lv_iconst (v := nI 0) hx hb d_La_law_667 (by decide +kernel) ?_
                    exact hj255 _ (if_pos h9)
                  · refine lv_iconst (v := nI 1) hx hb d_La_law_663 (by decide +kernel) ?_
                    refine lv_goto (tgt := 668) hx hb d_La_law_664 (by decide) ?_
                    exact hj255 _ (if_neg h9)
                refine lv_if_eq (tgt := 628) hx hb d_La_law_621 (by decide) (fun h9 => ?_) (fun h9 => ?_)
                · refine lv_iconst (v := nI 0) hx hb d_La_law_628 (by decide +kernel) ?_
                  exact hj252 _ (if_pos h9)
                · refine lv_iconst (v := nI 1) hx hb d_La_law_624 (by decide +kernel) ?_
                  refine lv_goto (tgt := 629) hx hb d_La_law_625 (by decide) ?_
                  exact hj252 _ (if_neg h9)
              · by_cases hm : (zG j).2 ≤ 1
                · refine lv_aload_n hx hb d_La_law_608 rfl (lv_at hl 1 rfl) ?_
                  refine lv_aload_n hx hb d_La_law_609 rfl (lv_at hl 0 rfl) ?_
                  refine lv_iload hx hb d_La_law_610 (lv_at hl 4 rfl) ?_
                  refine lv_iconst (v := nI 1) hx hb d_La_law_612 (by decide +kernel) ?_
                  refine lv_iadd hx hb d_La_law_613 ?_
                  refine aw_ti (nI_add (6 * t) 1) ?_
                  refine va_sld hx hb hX hbl hbA hS (i := (nI ((6 * t) + 1))) (vp_in_nI (by omega) (by omega)) d_La_law_614 ?_
                  refine aw_ti (y := nI j) (by rw [nI_clamp (by omega)]; exact hc0.symm) ?_
                  refine lv_aload_n hx hb d_La_law_615 rfl (lv_at hl 0 rfl) ?_
                  refine lv_iload hx hb d_La_law_616 (lv_at hl 4 rfl) ?_
                  refine lv_iconst (v := nI 2) hx hb d_La_law_618 (by decide +kernel) ?_
                  refine lv_iadd hx hb d_La_law_619 ?_
                  refine aw_ti (nI_add (6 * t) 2) ?_
                  refine va_sld hx hb hX hbl hbA hS (i := (nI ((6 * t) + 2))) (vp_in_nI (by omega) (by omega)) d_La_law_620 ?_
                  refine aw_ti (y := s2) (by rw [nI_clamp (by omega)]; exact hs2.symm) ?_
                  have hj259 : ∀ x260 : Int32, (if s2 = 0 then nI 0 else nI 1) = x260 → W p l e room_1 s m #[Value.ref b] below meth c H locs (85 + t) (1246 + 6 * t) (lw_Z below #[Value.ref b] s) (F0 m 629 ls [.int x260, .int (nI j), .ref (aw_r ad 0)]) := by
                    intro x260 ebx260
                    refine lv_aload_n hx hb d_La_law_629 rfl (lv_at hl 0 rfl) ?_
                    refine lv_iload hx hb d_La_law_630 (lv_at hl 4 rfl) ?_
                    refine lv_iconst (v := nI 3) hx hb d_La_law_632 (by decide +kernel) ?_
                    refine lv_iadd hx hb d_La_law_633 ?_
                    refine aw_ti (nI_add (6 * t) 3) ?_
                    refine va_sld hx hb hX hbl hbA hS (i := (nI ((6 * t) + 3))) (vp_in_nI (by omega) (by omega)) d_La_law_634 ?_
                    refine aw_ti (y := fr) (by rw [nI_clamp (by omega)]; exact hfr.symm) ?_
                    refine lv_aload_n hx hb d_La_law_635 rfl (lv_at hl 0 rfl) ?_
                    refine lv_iload hx hb d_La_law_636 (lv_at hl 4 rfl) ?_
                    refine lv_iconst (v := nI 4) hx hb d_La_law_638 (by decide +kernel) ?_
                    refine lv_iadd hx hb d_La_law_639 ?_
                    refine aw_ti (nI_add (6 * t) 4) ?_
                    refine va_sld hx hb hX hbl hbA hS (i := (nI ((6 * t) + 4))) (vp_in_nI (by omega) (by omega)) d_La_law_640 ?_
                    refine aw_ti (y := nI 0) (by rw [nI_clamp (by omega)]; exact hm0.symm) ?_
                    refine lv_aload_n hx hb d_La_law_641 rfl (lv_at hl 3 rfl) ?_
                    refine va_calli (vx_runSW (As := [.ref (aw_r ad 0), .int (nI j), .int x260, .int fr, .int (nI 0), .ref (aw_o ad)]) (rest := []) ⟨hx, hb, hml, hown, hG⟩ (k_La_feed10bV l hst D g ad N0 zG zO zX zY zA zB zM zI zL zK zN zF zQ j x260 fr hj (by omega) (by omega)) (aw_wW 6 hG gw_7_42 gw_7_40 gw_0_0 gw_7_41 rfl rfl hd_La_feed ⟨Nat.le_of_ble_eq_true rfl, Nat.le_of_ble_eq_true rfl⟩) (ag_qS hP hD hSh hU hS) rfl rfl hl.1 rfl (lv_room (Nat.le_of_ble_eq_true rfl)) d_La_law_642 ⟨by omega, by omega⟩) hS (fun _ _ h => h) (fun _ h => h) ?_
                    clear hP hD hSh hS
                    intro x261 u8 t8 H locs ht _ ex261 hB _ _ hS
                    obtain ⟨L, hP, hD, hSh⟩ := hB
                    rw [ht] at hP
                    clear ht
                    subst ex261
                    obtain ⟨zY262, ezY262⟩ : ∃ z : Nat → Nat → Int32, v_La_feed10bV_zY zY j = z := ⟨_, rfl⟩
                    rw [ezY262] at hSh
                    obtain ⟨zQ263, ezQ263⟩ : ∃ z : Int64, v_La_feed10bV_zQ zY j = z := ⟨_, rfl⟩
                    rw [ezQ263] at hSh
                    refine lv_istore hx hb d_La_law_645 hl (by decide) rfl (fun ls hl => ?_)
                    have hl : lv_has ls 8 [(5, .int (nI 0)), (0, .ref b), (1, .ref (aw_r ad 0)), (2, .ref (aw_m ad 0)), (3, .ref (aw_o ad)), (4, .int (nI (6 * t)))] := hl
                    refine lv_aload_n hx hb d_La_law_647 rfl (lv_at hl 3 rfl) ?_
                    refine lv_aload_n hx hb d_La_law_648 rfl (lv_at hl 1 rfl) ?_
                    refine lv_iload hx hb d_La_law_649 (lv_at hl 5 rfl) ?_
                    refine lv_iconst (v := nI 1) hx hb d_La_law_651 (by decide +kernel) ?_
                    refine lv_iadd hx hb d_La_law_652 ?_
                    refine aw_ti (nI_add (6 * t) 1) ?_
                    refine va_sld hx hb hX hbl hbA hS (i := (nI ((6 * t) + 1))) (vp_in_nI (by omega) (by omega)) d_La_law_653 ?_
                    refine aw_ti (y := nI j) (by rw [nI_clamp (by omega)]; exact hc0.symm) ?_
                    refine lv_aload_n hx hb d_La_law_654 rfl (lv_at hl 1 rfl) ?_
                    refine lv_iload hx hb d_La_law_655 (lv_at hl 5 rfl) ?_
                    refine lv_iconst (v := nI 2) hx hb d_La_law_657 (by decide +kernel) ?_
                    refine lv_iadd hx hb d_La_law_658 ?_
                    refine aw_ti (nI_add (6 * t) 2) ?_
                    refine va_sld hx hb hX hbl hbA hS (i := (nI ((6 * t) + 2))) (vp_in_nI (by omega) (by omega)) d_La_law_659 ?_
                    refine aw_ti (y := s2) (by rw [nI_clamp (by omega)]; exact hs2.symm) ?_
                    have hj264 : ∀ x265 : Int32, (if s2 = 0 then nI 0 else nI 1) = x265 → W p l e room_1 s m #[Value.ref b] below meth c H locs ((85 + t) + 1) ((1246 + 6 * t) + 6) (lw_Z below #[Value.ref b] s) (F0 m 668 ls [.int x265, .int (nI j), .ref (aw_m ad 0)]) := by
                      intro x265 ebx265
                      refine lv_aload_n hx hb d_La_law_668 rfl (lv_at hl 1 rfl) ?_
                      refine lv_iload hx hb d_La_law_669 (lv_at hl 5 rfl) ?_
                      refine lv_iconst (v := nI 3) hx hb d_La_law_671 (by decide +kernel) ?_
                      refine lv_iadd hx hb d_La_law_672 ?_
                      refine aw_ti (nI_add (6 * t) 3) ?_
                      refine va_sld hx hb hX hbl hbA hS (i := (nI ((6 * t) + 3))) (vp_in_nI (by omega) (by omega)) d_La_law_673 ?_
                      refine aw_ti (y := fr) (by rw [nI_clamp (by omega)]; exact hfr.symm) ?_
                      refine lv_aload_n hx hb d_La_law_674 rfl (lv_at hl 1 rfl) ?_
                      refine lv_iload hx hb d_La_law_675 (lv_at hl 5 rfl) ?_
                      refine lv_iconst (v := nI 4) hx hb d_La_law_677 (by decide +kernel) ?_
                      refine lv_iadd hx hb d_La_law_678 ?_
                      refine aw_ti (nI_add (6 * t) 4) ?_
                      refine va_sld hx hb hX hbl hbA hS (i := (nI ((6 * t) + 4))) (vp_in_nI (by omega) (by omega)) d_La_law_679 ?_
                      refine aw_ti (y := nI 0) (by rw [nI_clamp (by omega)]; exact hm0.symm) ?_
                      obtain ⟨_, he266⟩ := zr_M0 hSh
                      refine va_calli (va_runV (As := [.int (nI j), .int x265, .int fr, .int (nI 0)]) (rest := []) ⟨hx, hb, hml, hown, hG⟩ (k_Mo_feedXbV l D g ad N0 zG zO zX zY262 zA zB zM zI zL zK zN zF zQ263 j x265 fr (nI 0) hj hi) (aw_wV 4 hG gw_12_26 gw_12_23 gw_0_10 gw_12_24 gw_12_25 rfl rfl hd_Mo_feed ⟨Nat.le_of_ble_eq_true rfl, Nat.le_of_ble_eq_true rfl⟩) (ag_qV (va_recv hK hP rfl he266) hP hD hSh hU hS) rfl rfl hl.1 rfl (lv_room (Nat.le_of_ble_eq_true rfl)) d_La_law_680 ⟨by omega, by omega⟩) hS (fun _ _ h => h) (fun _ h => h) ?_
                      clear hP hD hSh hS he266
                      intro x267 u8 t8 H locs ht _ ex267 hB _ _ hS
                      obtain ⟨L, hP, hD, hSh⟩ := hB
                      rw [ht] at hP
                      clear ht
                      have ex267 := ex267.symm
                      refine lv_istore hx hb d_La_law_683 hl (by decide) rfl (fun ls hl => ?_)
                      have hl : lv_has ls 8 [(6, .int x267), (5, .int (nI 0)), (0, .ref b), (1, .ref (aw_r ad 0)), (2, .ref (aw_m ad 0)), (3, .ref (aw_o ad)), (4, .int (nI (6 * t)))] := hl
                      refine lv_goto (tgt := 837) hx hb d_La_law_685 (by decide) ?_
                      refine lv_iinc (k := 6) (v := nI (6 * t + 6)) hx hb d_La_law_837 hl rfl (aw_inc (6 * t) 6 6 (by decide +kernel)) (by decide) rfl (fun ls hl => ?_)
                      have hl : lv_has ls 8 [(4, .int (nI (6 * t + 6))), (6, .int x267), (5, .int (nI 0)), (0, .ref b), (1, .ref (aw_r ad 0)), (2, .ref (aw_m ad 0)), (3, .ref (aw_o ad))] := hl
                      refine lv_goto (tgt := 23) hx hb d_La_law_840 (by decide) ?_
                      have hl := lv_sub hl (l' := [(0, .ref b), (1, .ref (aw_r ad 0)), (2, .ref (aw_m ad 0)), (3, .ref (aw_o ad)), (4, .int (nI (6 * t + 6)))]) [3, 4, 5, 6, 0] rfl
                      refine W.widen (k := 85 + (t + 1)) (n := 1246 + 6 * (t + 1)) (by omega) (by omega) ?_
                      have hR : az_R zG zO zX zY262 zA zB zM zI zL := by
                        subst ex267 ebx265 ezQ263 ezY262 ebx260
                        exact r_feed10b_Xb hR hj hs hm
                      exact ih (t + 1) zG zO zX zY262 zA zB zM zI zL zK zN (nI 1) zQ263 _ _ L ls (by omega) hP hD hSh hR hS (by first | exact hl | simpa [Nat.mul_add] using hl)
                    refine lv_if_eq (tgt := 667) hx hb d_La_law_660 (by decide) (fun h9 => ?_) (fun h9 => ?_)
                    · refine lv_iconst (v := nI 0) hx hb d_La_law_667 (by decide +kernel) ?_
                      exact hj264 _ (if_pos h9)
                    · refine lv_iconst (v := nI 1) hx hb d_La_law_663 (by decide +kernel) ?_
                      refine lv_goto (tgt := 668) hx hb d_La_law_664 (by decide) ?_
                      exact hj264 _ (if_neg h9)
                  refine lv_if_eq (tgt := 628) hx hb d_La_law_621 (by decide) (fun h9 => ?_) (fun h9 => ?_)
                  · refine lv_iconst (v := nI 0) hx hb d_La_law_628 (by decide +kernel) ?_
                    exact hj259 _ (if_pos h9)
                  · refine lv_iconst (v := nI 1) hx hb d_La_law_624 (by decide +kernel) ?_
                    refine lv_goto (tgt := 629) hx hb d_La_law_625 (by decide) ?_
                    exact hj259 _ (if_neg h9)
                · refine lv_aload_n hx hb d_La_law_608 rfl (lv_at hl 1 rfl) ?_
                  refine lv_aload_n hx hb d_La_law_609 rfl (lv_at hl 0 rfl) ?_
                  refine lv_iload hx hb d_La_law_610 (lv_at hl 4 rfl) ?_
                  refine lv_iconst (v := nI 1) hx hb d_La_law_612 (by decide +kernel) ?_
                  refine lv_iadd hx hb d_La_law_613 ?_
                  refine aw_ti (nI_add (6 * t) 1) ?_
                  refine va_sld hx hb hX hbl hbA hS (i := (nI ((6 * t) + 1))) (vp_in_nI (by omega) (by omega)) d_La_law_614 ?_
                  refine aw_ti (y := nI j) (by rw [nI_clamp (by omega)]; exact hc0.symm) ?_
                  refine lv_aload_n hx hb d_La_law_615 rfl (lv_at hl 0 rfl) ?_
                  refine lv_iload hx hb d_La_law_616 (lv_at hl 4 rfl) ?_
                  refine lv_iconst (v := nI 2) hx hb d_La_law_618 (by decide +kernel) ?_
                  refine lv_iadd hx hb d_La_law_619 ?_
                  refine aw_ti (nI_add (6 * t) 2) ?_
                  refine va_sld hx hb hX hbl hbA hS (i := (nI ((6 * t) + 2))) (vp_in_nI (by omega) (by omega)) d_La_law_620 ?_
                  refine aw_ti (y := s2) (by rw [nI_clamp (by omega)]; exact hs2.symm) ?_
                  have hj268 : ∀ x269 : Int32, (if s2 = 0 then nI 0 else nI 1) = x269 → W p l e room_1 s m #[Value.ref b] below meth c H locs (85 + t) (1246 + 6 * t) (lw_Z below #[Value.ref b] s) (F0 m 629 ls [.int x269, .int (nI j), .ref (aw_r ad 0)]) := by
                    intro x269 ebx269
                    refine lv_aload_n hx hb d_La_law_629 rfl (lv_at hl 0 rfl) ?_
                    refine lv_iload hx hb d_La_law_630 (lv_at hl 4 rfl) ?_
                    refine lv_iconst (v := nI 3) hx hb d_La_law_632 (by decide +kernel) ?_
                    refine lv_iadd hx hb d_La_law_633 ?_
                    refine aw_ti (nI_add (6 * t) 3) ?_
                    refine va_sld hx hb hX hbl hbA hS (i := (nI ((6 * t) + 3))) (vp_in_nI (by omega) (by omega)) d_La_law_634 ?_
                    refine aw_ti (y := fr) (by rw [nI_clamp (by omega)]; exact hfr.symm) ?_
                    refine lv_aload_n hx hb d_La_law_635 rfl (lv_at hl 0 rfl) ?_
                    refine lv_iload hx hb d_La_law_636 (lv_at hl 4 rfl) ?_
                    refine lv_iconst (v := nI 4) hx hb d_La_law_638 (by decide +kernel) ?_
                    refine lv_iadd hx hb d_La_law_639 ?_
                    refine aw_ti (nI_add (6 * t) 4) ?_
                    refine va_sld hx hb hX hbl hbA hS (i := (nI ((6 * t) + 4))) (vp_in_nI (by omega) (by omega)) d_La_law_640 ?_
                    refine aw_ti (y := nI 0) (by rw [nI_clamp (by omega)]; exact hm0.symm) ?_
                    refine lv_aload_n hx hb d_La_law_641 rfl (lv_at hl 3 rfl) ?_
                    refine va_calli (vx_runSW (As := [.ref (aw_r ad 0), .int (nI j), .int x269, .int fr, .int (nI 0), .ref (aw_o ad)]) (rest := []) ⟨hx, hb, hml, hown, hG⟩ (k_La_feed10V l hst D g ad N0 zG zO zX zY zA zB zM zI zL zK zN zF zQ j x269 fr hj (by omega) (by omega) (by omega)) (aw_wW 6 hG gw_7_42 gw_7_40 gw_0_0 gw_7_41 rfl rfl hd_La_feed ⟨Nat.le_of_ble_eq_true rfl, Nat.le_of_ble_eq_true rfl⟩) (ag_qS hP hD hSh hU hS) rfl rfl hl.1 rfl (lv_room (Nat.le_of_ble_eq_true rfl)) d_La_law_642 ⟨by omega, by omega⟩) hS (fun _ _ h => h) (fun _ h => h) ?_
                    clear hP hD hSh hS
                    intro x270 u8 t8 H locs ht _ ex270 hB _ _ hS
                    obtain ⟨L, hP, hD, hSh⟩ := hB
                    rw [ht] at hP
                    clear ht
                    subst ex270
                    obtain ⟨zY271, ezY271⟩ : ∃ z : Nat → Nat → Int32, v_La_feed10V_zY zY j = z := ⟨_, rfl⟩
                    rw [ezY271] at hSh
                    obtain ⟨zQ272, ezQ272⟩ : ∃ z : Int64, v_La_feed10V_zQ zY j = z := ⟨_, rfl⟩
                    rw [ezQ272] at hSh
                    refine lv_istore hx hb d_La_law_645 hl (by decide) rfl (fun ls hl => ?_)
                    have hl : lv_has ls 8 [(5, .int (nI 0)), (0, .ref b), (1, .ref (aw_r ad 0)), (2, .ref (aw_m ad 0)), (3, .ref (aw_o ad)), (4, .int (nI (6 * t)))] := hl
                    refine lv_aload_n hx hb d_La_law_647 rfl (lv_at hl 3 rfl) ?_
                    refine lv_aload_n hx hb d_La_law_648 rfl (lv_at hl 1 rfl) ?_
                    refine lv_iload hx hb d_La_law_649 (lv_at hl 5 rfl) ?_
                    refine lv_iconst (v := nI 1) hx hb d_La_law_651 (by decide +kernel) ?_
                    refine lv_iadd hx hb d_La_law_652 ?_
                    refine aw_ti (nI_add (6 * t) 1) ?_
                    refine va_sld hx hb hX hbl hbA hS (i := (nI ((6 * t) + 1))) (vp_in_nI (by omega) (by omega)) d_La_law_653 ?_
                    refine aw_ti (y := nI j) (by rw [nI_clamp (by omega)]; exact hc0.symm) ?_
                    refine lv_aload_n hx hb d_La_law_654 rfl (lv_at hl 1 rfl) ?_
                    refine lv_iload hx hb d_La_law_655 (lv_at hl 5 rfl) ?_
                    refine lv_iconst (v := nI 2) hx hb d_La_law_657 (by decide +kernel) ?_
                    refine lv_iadd hx hb d_La_law_658 ?_
                    refine aw_ti (nI_add (6 * t) 2) ?_
                    refine va_sld hx hb hX hbl hbA hS (i := (nI ((6 * t) + 2))) (vp_in_nI (by omega) (by omega)) d_La_law_659 ?_
                    refine aw_ti (y := s2) (by rw [nI_clamp (by omega)]; exact hs2.symm) ?_
                    have hj273 : ∀ x274 : Int32, (if s2 = 0 then nI 0 else nI 1) = x274 → W p l e room_1 s m #[Value.ref b] below meth c H locs ((85 + t) + 1) ((1246 + 6 * t) + 6) (lw_Z below #[Value.ref b] s) (F0 m 668 ls [.int x274, .int (nI j), .ref (aw_m ad 0)]) := by
                      intro x274 ebx274
                      refine lv_aload_n hx hb d_La_law_668 rfl (lv_at hl 1 rfl) ?_
                      refine lv_iload hx hb d_La_law_669 (lv_at hl 5 rfl) ?_
                      refine lv_iconst (v := nI 3) hx hb d_La_law_671 (by decide +kernel) ?_
                      refine lv_iadd hx hb d_La_law_672 ?_
                      refine aw_ti (nI_add (6 * t) 3) ?_
                      refine va_sld hx hb hX hbl hbA hS (i := (nI ((6 * t) + 3))) (vp_in_nI (by omega) (by omega)) d_La_law_673 ?_
                      refine aw_ti (y := fr) (by rw [nI_clamp (by omega)]; exact hfr.symm) ?_
                      refine lv_aload_n hx hb d_La_law_674 rfl (lv_at hl 1 rfl) ?_
                      refine lv_iload hx hb d_La_law_675 (lv_at hl 5 rfl) ?_
                      refine lv_iconst (v := nI 4) hx hb d_La_law_677 (by decide +kernel) ?_
                      refine lv_iadd hx hb d_La_law_678 ?_
                      refine aw_ti (nI_add (6 * t) 4) ?_
                      refine va_sld hx hb hX hbl hbA hS (i := (nI ((6 * t) + 4))) (vp_in_nI (by omega) (by omega)) d_La_law_679 ?_
                      refine aw_ti (y := nI 0) (by rw [nI_clamp (by omega)]; exact hm0.symm) ?_
                      obtain ⟨_, he275⟩ := zr_M0 hSh
                      refine va_calli (va_runV (As := [.int (nI j), .int x274, .int fr, .int (nI 0)]) (rest := []) ⟨hx, hb, hml, hown, hG⟩ (k_Mo_feedXbV l D g ad N0 zG zO zX zY271 zA zB zM zI zL zK zN zF zQ272 j x274 fr (nI 0) hj hi) (aw_wV 4 hG gw_12_26 gw_12_23 gw_0_10 gw_12_24 gw_12_25 rfl rfl hd_Mo_feed ⟨Nat.le_of_ble_eq_true rfl, Nat.le_of_ble_eq_true rfl⟩) (ag_qV (va_recv hK hP rfl he275) hP hD hSh hU hS) rfl rfl hl.1 rfl (lv_room (Nat.le_of_ble_eq_true rfl)) d_La_law_680 ⟨by omega, by omega⟩) hS (fun _ _ h => h) (fun _ h => h) ?_
                      clear hP hD hSh hS he275
                      intro x276 u8 t8 H locs ht _ ex276 hB _ _ hS
                      obtain ⟨L, hP, hD, hSh⟩ := hB
                      rw [ht] at hP
                      clear ht
                      have ex276 := ex276.symm
                      refine lv_istore hx hb d_La_law_683 hl (by decide) rfl (fun ls hl => ?_)
                      have hl : lv_has ls 8 [(6, .int x276), (5, .int (nI 0)), (0, .ref b), (1, .ref (aw_r ad 0)), (2, .ref (aw_m ad 0)), (3, .ref (aw_o ad)), (4, .int (nI (6 * t)))] := hl
                      refine lv_goto (tgt := 837) hx hb d_La_law_685 (by decide) ?_
                      refine lv_iinc (k := 6) (v := nI (6 * t + 6)) hx hb d_La_law_837 hl rfl (aw_inc (6 * t) 6 6 (by decide +kernel)) (by decide) rfl (fun ls hl => ?_)
                      have hl : lv_has ls 8 [(4, .int (nI (6 * t + 6))), (6, .int x276), (5, .int (nI 0)), (0, .ref b), (1, .ref (aw_r ad 0)), (2, .ref (aw_m ad 0)), (3, .ref (aw_o ad))] := hl
                      refine lv_goto (tgt := 23) hx hb d_La_law_840 (by decide) ?_
                      have hl := lv_sub hl (l' := [(0, .ref b), (1, .ref (aw_r ad 0)), (2, .ref (aw_m ad 0)), (3, .ref (aw_o ad)), (4, .int (nI (6 * t + 6)))]) [3, 4, 5, 6, 0] rfl
                      refine W.widen (k := 85 + (t + 1)) (n := 1246 + 6 * (t + 1)) (by omega) (by omega) ?_
                      have hR : az_R zG zO zX zY271 zA zB zM zI zL := by
                        subst ex276 ebx274 ezQ272 ezY271 ebx269
                        exact r_feed10_Xb hR hj hs (by omega)
                      exact ih (t + 1) zG zO zX zY271 zA zB zM zI zL zK zN (nI 1) zQ272 _ _ L ls (by omega) hP hD hSh hR hS (by first | exact hl | simpa [Nat.mul_add] using hl)
                    refine lv_if_eq (tgt := 667) hx hb d_La_law_660 (by decide) (fun h9 => ?_) (fun h9 => ?_)
                    · refine lv_iconst (v := nI 0) hx hb d_La_law_667 (by decide +kernel) ?_
                      exact hj273 _ (if_pos h9)
                    · refine lv_iconst (v := nI 1) hx hb d_La_law_663 (by decide +kernel) ?_
                      refine lv_goto (tgt := 668) hx hb d_La_law_664 (by decide) ?_
                      exact hj273 _ (if_neg h9)
                  refine lv_if_eq (tgt := 628) hx hb d_La_law_621 (by decide) (fun h9 => ?_) (fun h9 => ?_)
                  · refine lv_iconst (v := nI 0) hx hb d_La_law_628 (by decide +kernel) ?_
                    exact hj268 _ (if_pos h9)
                  · refine lv_iconst (v := nI 1) hx hb d_La_law_624 (by decide +kernel) ?_
                    refine lv_goto (tgt := 629) hx hb d_La_law_625 (by decide) ?_
                    exact hj268 _ (if_neg h9)
            · refine lv_aload_n hx hb d_La_law_608 rfl (lv_at hl 1 rfl) ?_
              refine lv_aload_n hx hb d_La_law_609 rfl (lv_at hl 0 rfl) ?_
              refine lv_iload hx hb d_La_law_610 (lv_at hl 4 rfl) ?_
              refine lv_iconst (v := nI 1) hx hb d_La_law_612 (by decide +kernel) ?_
              refine lv_iadd hx hb d_La_law_613 ?_
              refine aw_ti (nI_add (6 * t) 1) ?_
              refine va_sld hx hb hX hbl hbA hS (i := (nI ((6 * t) + 1))) (vp_in_nI (by omega) (by omega)) d_La_law_614 ?_
              refine aw_ti (y := nI j) (by rw [nI_clamp (by omega)]; exact hc0.symm) ?_
              refine lv_aload_n hx hb d_La_law_615 rfl (lv_at hl 0 rfl) ?_
              refine lv_iload hx hb d_La_law_616 (lv_at hl 4 rfl) ?_
              refine lv_iconst (v := nI 2) hx hb d_La_law_618 (by decide +kernel) ?_
              refine lv_iadd hx hb d_La_law_619 ?_
              refine aw_ti (nI_add (6 * t) 2) ?_
              refine va_sld hx hb hX hbl hbA hS (i := (nI ((6 * t) + 2))) (vp_in_nI (by omega) (by omega)) d_La_law_620 ?_
              refine aw_ti (y := s2) (by rw [nI_clamp (by omega)]; exact hs2.symm) ?_
              have hj277 : ∀ x278 : Int32, (if s2 = 0 then nI 0 else nI 1) = x278 → W p l e room_1 s m #[Value.ref b] below meth c H locs (85 + t) (1246 + 6 * t) (lw_Z below #[Value.ref b] s) (F0 m 629 ls [.int x278, .int (nI j), .ref (aw_r ad 0)]) := by
                intro x278 ebx278
                refine lv_aload_n hx hb d_La_law_629 rfl (lv_at hl 0 rfl) ?_
                refine lv_iload hx hb d_La_law_630 (lv_at hl 4 rfl) ?_
                refine lv_iconst (v := nI 3) hx hb d_La_law_632 (by decide +kernel) ?_
                refine lv_iadd hx hb d_La_law_633 ?_
                refine aw_ti (nI_add (6 * t) 3) ?_
                refine va_sld hx hb hX hbl hbA hS (i := (nI ((6 * t) + 3))) (vp_in_nI (by omega) (by omega)) d_La_law_634 ?_
                refine aw_ti (y := fr) (by rw [nI_clamp (by omega)]; exact hfr.symm) ?_
                refine lv_aload_n hx hb d_La_law_635 rfl (lv_at hl 0 rfl) ?_
                refine lv_iload hx hb d_La_law_636 (lv_at hl 4 rfl) ?_
                refine lv_iconst (v := nI 4) hx hb d_La_law_638 (by decide +kernel) ?_
                refine lv_iadd hx hb d_La_law_639 ?_
                refine aw_ti (nI_add (6 * t) 4) ?_
                refine va_sld hx hb hX hbl hbA hS (i := (nI ((6 * t) + 4))) (vp_in_nI (by omega) (by omega)) d_La_law_640 ?_
                refine aw_ti (y := nI 0) (by rw [nI_clamp (by omega)]; exact hm0.symm) ?_
                refine lv_aload_n hx hb d_La_law_641 rfl (lv_at hl 3 rfl) ?_
                refine va_calli (vx_runSW (As := [.ref (aw_r ad 0), .int (nI j), .int x278, .int fr, .int (nI 0), .ref (aw_o ad)]) (rest := []) ⟨hx, hb, hml, hown, hG⟩ (k_La_feedXs0V l hst D g ad N0 zG zO zX zY zA zB zM zI zL zK zN zF zQ j x278 fr hj (by omega)) (aw_wW 6 hG gw_7_42 gw_7_40 gw_0_0 gw_7_41 rfl rfl hd_La_feed ⟨Nat.le_of_ble_eq_true rfl, Nat.le_of_ble_eq_true rfl⟩) (ag_qS hP hD hSh hU hS) rfl rfl hl.1 rfl (lv_room (Nat.le_of_ble_eq_true rfl)) d_La_law_642 ⟨by omega, by omega⟩) hS (fun _ _ h => h) (fun _ h => h) ?_
                clear hP hD hSh hS
                intro x279 u8 t8 H locs ht _ ex279 hB _ _ hS
                obtain ⟨L, hP, hD, hSh⟩ := hB
                rw [ht] at hP
                clear ht
                subst ex279
                refine lv_istore hx hb d_La_law_645 hl (by decide) rfl (fun ls hl => ?_)
                have hl : lv_has ls 8 [(5, .int (nI 2)), (0, .ref b), (1, .ref (aw_r ad 0)), (2, .ref (aw_m ad 0)), (3, .ref (aw_o ad)), (4, .int (nI (6 * t)))] := hl
                refine lv_aload_n hx hb d_La_law_647 rfl (lv_at hl 3 rfl) ?_
                refine lv_aload_n hx hb d_La_law_648 rfl (lv_at hl 1 rfl) ?_
                refine lv_iload hx hb d_La_law_649 (lv_at hl 5 rfl) ?_
                refine lv_iconst (v := nI 1) hx hb d_La_law_651 (by decide +kernel) ?_
                refine lv_iadd hx hb d_La_law_652 ?_
                refine aw_ti (nI_add (6 * t) 1) ?_
                refine va_sld hx hb hX hbl hbA hS (i := (nI ((6 * t) + 1))) (vp_in_nI (by omega) (by omega)) d_La_law_653 ?_
                refine aw_ti (y := nI j) (by rw [nI_clamp (by omega)]; exact hc0.symm) ?_
                refine lv_aload_n hx hb d_La_law_654 rfl (lv_at hl 1 rfl) ?_
                refine lv_iload hx hb d_La_law_655 (lv_at hl 5 rfl) ?_
                refine lv_iconst (v := nI 2) hx hb d_La_law_657 (by decide +kernel) ?_
                refine lv_iadd hx hb d_La_law_658 ?_
                refine aw_ti (nI_add (6 * t) 2) ?_
                refine va_sld hx hb hX hbl hbA hS (i := (nI ((6 * t) + 2))) (vp_in_nI (by omega) (by omega)) d_La_law_659 ?_
                refine aw_ti (y := s2) (by rw [nI_clamp (by omega)]; exact hs2.symm) ?_
                have hj280 : ∀ x281 : Int32, (if s2 = 0 then nI 0 else nI 1) = x281 → W p l e room_1 s m #[Value.ref b] below meth c H locs ((85 + t) + 1) ((1246 + 6 * t) + 6) (lw_Z below #[Value.ref b] s) (F0 m 668 ls [.int x281, .int (nI j), .ref (aw_m ad 0)]) := by
                  intro x281 ebx281
                  refine lv_aload_n hx hb d_La_law_668 rfl (lv_at hl 1 rfl) ?_
                  refine lv_iload hx hb d_La_law_669 (lv_at hl 5 rfl) ?_
                  refine lv_iconst (v := nI 3) hx hb d_La_law_671 (by decide +kernel) ?_
                  refine lv_iadd hx hb d_La_law_672 ?_
                  refine aw_ti (nI_add (6 * t) 3) ?_
                  refine va_sld hx hb hX hbl hbA hS (i := (nI ((6 * t) + 3))) (vp_in_nI (by omega) (by omega)) d_La_law_673 ?_
                  refine aw_ti (y := fr) (by rw [nI_clamp (by omega)]; exact hfr.symm) ?_
                  refine lv_aload_n hx hb d_La_law_674 rfl (lv_at hl 1 rfl) ?_
                  refine lv_iload hx hb d_La_law_675 (lv_at hl 5 rfl) ?_
                  refine lv_iconst (v := nI 4) hx hb d_La_law_677 (by decide +kernel) ?_
                  refine lv_iadd hx hb d_La_law_678 ?_
                  refine aw_ti (nI_add (6 * t) 4) ?_
                  refine va_sld hx hb hX hbl hbA hS (i := (nI ((6 * t) + 4))) (vp_in_nI (by omega) (by omega)) d_La_law_679 ?_
                  refine aw_ti (y := nI 0) (by rw [nI_clamp (by omega)]; exact hm0.symm) ?_
                  obtain ⟨_, he282⟩ := zr_M0 hSh
                  refine va_calli (va_runV (As := [.int (nI j), .int x281, .int fr, .int (nI 0)]) (rest := []) ⟨hx, hb, hml, hown, hG⟩ (k_Mo_feedXbV l D g ad N0 zG zO zX zY zA zB zM zI zL zK zN zF zQ j x281 fr (nI 0) hj hi) (aw_wV 4 hG gw_12_26 gw_12_23 gw_0_10 gw_12_24 gw_12_25 rfl rfl hd_Mo_feed ⟨Nat.le_of_ble_eq_true rfl, Nat.le_of_ble_eq_true rfl⟩) (ag_qV (va_recv hK hP rfl he282) hP hD hSh hU hS) rfl rfl hl.1 rfl (lv_room (Nat.le_of_ble_eq_true rfl)) d_La_law_680 ⟨by omega, by omega⟩) hS (fun _ _ h => h) (fun _ h => h) ?_
                  clear hP hD hSh hS he282
                  intro x283 u8 t8 H locs ht _ ex283 hB _ _ hS
                  obtain ⟨L, hP, hD, hSh⟩ := hB
                  rw [ht] at hP
                  clear ht
                  have ex283 := ex283.symm
                  refine lv_istore hx hb d_La_law_683 hl (by decide) rfl (fun ls hl => ?_)
                  have hl : lv_has ls 8 [(6, .int x283), (5, .int (nI 2)), (0, .ref b), (1, .ref (aw_r ad 0)), (2, .ref (aw_m ad 0)), (3, .ref (aw_o ad)), (4, .int (nI (6 * t)))] := hl
                  refine lv_goto (tgt := 837) hx hb d_La_law_685 (by decide) ?_
                  refine lv_iinc (k := 6) (v := nI (6 * t + 6)) hx hb d_La_law_837 hl rfl (aw_inc (6 * t) 6 6 (by decide +kernel)) (by decide) rfl (fun ls hl => ?_)
                  have hl : lv_has ls 8 [(4, .int (nI (6 * t + 6))), (6, .int x283), (5, .int (nI 2)), (0, .ref b), (1, .ref (aw_r ad 0)), (2, .ref (aw_m ad 0)), (3, .ref (aw_o ad))] := hl
                  refine lv_goto (tgt := 23) hx hb d_La_law_840 (by decide) ?_
                  have hl := lv_sub hl (l' := [(0, .ref b), (1, .ref (aw_r ad 0)), (2, .ref (aw_m ad 0)), (3, .ref (aw_o ad)), (4, .int (nI (6 * t + 6)))]) [3, 4, 5, 6, 0] rfl
                  refine W.widen (k := 85 + (t + 1)) (n := 1246 + 6 * (t + 1)) (by omega) (by omega) ?_
                  exact ih (t + 1) zG zO zX zY zA zB zM zI zL zK zN (nI 1) zQ _ _ L ls (by omega) hP hD hSh hR hS (by first | exact hl | simpa [Nat.mul_add] using hl)
                refine lv_if_eq (tgt := 667) hx hb d_La_law_660 (by decide) (fun h9 => ?_) (fun h9 => ?_)
                · refine lv_iconst (v := nI 0) hx hb d_La_law_667 (by decide +kernel) ?_
                  exact hj280 _ (if_pos h9)
                · refine lv_iconst (v := nI 1) hx hb d_La_law_663 (by decide +kernel) ?_
                  refine lv_goto (tgt := 668) hx hb d_La_law_664 (by decide) ?_
                  exact hj280 _ (if_neg h9)
              refine lv_if_eq (tgt := 628) hx hb d_La_law_621 (by decide) (fun h9 => ?_) (fun h9 => ?_)
              · refine lv_iconst (v := nI 0) hx hb d_La_law_628 (by decide +kernel) ?_
                exact hj277 _ (if_pos h9)
              · refine lv_iconst (v := nI 1) hx hb d_La_law_624 (by decide +kernel) ?_
                refine lv_goto (tgt := 629) hx hb d_La_law_625 (by decide) ?_
                exact hj277 _ (if_neg h9)
          · by_cases hs : (zG j).1 = 3
            · by_cases h5 : (zG j).2 = 5
              · refine lv_aload_n hx hb d_La_law_608 rfl (lv_at hl 1 rfl) ?_
                refine lv_aload_n hx hb d_La_law_609 rfl (lv_at hl 0 rfl) ?_
                refine lv_iload hx hb d_La_law_610 (lv_at hl 4 rfl) ?_
                refine lv_iconst (v := nI 1) hx hb d_La_law_612 (by decide +kernel) ?_
                refine lv_iadd hx hb d_La_law_613 ?_
                refine aw_ti (nI_add (6 * t) 1) ?_
                refine va_sld hx hb hX hbl hbA hS (i := (nI ((6 * t) + 1))) (vp_in_nI (by omega) (by omega)) d_La_law_614 ?_
                refine aw_ti (y := nI j) (by rw [nI_clamp (by omega)]; exact hc0.symm) ?_
                refine lv_aload_n hx hb d_La_law_615 rfl (lv_at hl 0 rfl) ?_
                refine lv_iload hx hb d_La_law_616 (lv_at hl 4 rfl) ?_
                refine lv_iconst (v := nI 2) hx hb d_La_law_618 (by decide +kernel) ?_
                refine lv_iadd hx hb d_La_law_619 ?_
                refine aw_ti (nI_add (6 * t) 2) ?_
                refine va_sld hx hb hX hbl hbA hS (i := (nI ((6 * t) + 2))) (vp_in_nI (by omega) (by omega)) d_La_law_620 ?_
                refine aw_ti (y := s2) (by rw [nI_clamp (by omega)]; exact hs2.symm) ?_
                have hj284 : ∀ x285 : Int32, (if s2 = 0 then nI 0 else nI 1) = x285 → W p l e room_1 s m #[Value.ref b] below meth c H locs (85 + t) (1246 + 6 * t) (lw_Z below #[Value.ref b] s) (F0 m 629 ls [.int x285, .int (nI j), .ref (aw_r ad 0)]) := by
                  intro x285 ebx285
                  refine lv_aload_n hx hb d_La_law_629 rfl (lv_at hl 0 rfl) ?_
                  refine lv_iload hx hb d_La_law_630 (lv_at hl 4 rfl) ?_
                  refine lv_iconst (v := nI 3) hx hb d_La_law_632 (by decide +kernel) ?_
                  refine lv_iadd hx hb d_La_law_633 ?_
                  refine aw_ti (nI_add (6 * t) 3) ?_
                  refine va_sld hx hb hX hbl hbA hS (i := (nI ((6 * t) + 3))) (vp_in_nI (by omega) (by omega)) d_La_law_634 ?_
                  refine aw_ti (y := nI k) (by rw [nI_clamp (by omega)]; exact hfr.symm) ?_
                  refine lv_aload_n hx hb d_La_law_635 rfl (lv_at hl 0 rfl) ?_
                  refine lv_iload hx hb d_La_law_636 (lv_at hl 4 rfl) ?_
                  refine lv_iconst (v := nI 4) hx hb d_La_law_638 (by decide +kernel) ?_
                  refine lv_iadd hx hb d_La_law_639 ?_
                  refine aw_ti (nI_add (6 * t) 4) ?_
                  refine va_sld hx hb hX hbl hbA hS (i := (nI ((6 * t) + 4))) (vp_in_nI (by omega) (by omega)) d_La_law_640 ?_
                  refine aw_ti (y := nI 0) (by rw [nI_clamp (by omega)]; exact hm0.symm) ?_
                  refine lv_aload_n hx hb d_La_law_641 rfl (lv_at hl 3 rfl) ?_
                  refine va_calli (vx_runSW (As := [.ref (aw_r ad 0), .int (nI j), .int x285, .int (nI k), .int (nI 0), .ref (aw_o ad)]) (rest := []) ⟨hx, hb, hml, hown, hG⟩ (k_La_feedXs0V l hst D g ad N0 zG zO zX zY zA zB zM zI zL zK zN zF zQ j x285 (nI k) hj (by omega)) (aw_wW 6 hG gw_7_42 gw_7_40 gw_0_0 gw_7_41 rfl rfl hd_La_feed ⟨Nat.le_of_ble_eq_true rfl, Nat.le_of_ble_eq_true rfl⟩) (ag_qS hP hD hSh hU hS) rfl rfl hl.1 rfl (lv_room (Nat.le_of_ble_eq_true rfl)) d_La_law_642 ⟨by omega, by omega⟩) hS (fun _ _ h => h) (fun _ h => h) ?_
                  clear hP hD hSh hS
                  intro x286 u8 t8 H locs ht _ ex286 hB _ _ hS
                  obtain ⟨L, hP, hD, hSh⟩ := hB
                  rw [ht] at hP
                  clear ht
                  subst ex286
                  refine lv_istore hx hb d_La_law_645 hl (by decide) rfl (fun ls hl => ?_)
                  have hl : lv_has ls 8 [(5, .int (nI 2)), (0, .ref b), (1, .ref (aw_r ad 0)), (2, .ref (aw_m ad 0)), (3, .ref (aw_o ad)), (4, .int (nI (6 * t)))] := hl
                  refine lv_aload_n hx hb d_La_law_647 rfl (lv_at hl 3 rfl) ?_
                  refine lv_aload_n hx hb d_La_law_648 rfl (lv_at hl 1 rfl) ?_
                  refine lv_iload hx hb d_La_law_649 (lv_at hl 5 rfl) ?_
                  refine lv_iconst (v := nI 1) hx hb d_La_law_651 (by decide +kernel) ?_
                  refine lv_iadd hx hb d_La_law_652 ?_
                  refine aw_ti (nI_add (6 * t) 1) ?_
                  refine va_sld hx hb hX hbl hbA hS (i := (nI ((6 * t) + 1))) (vp_in_nI (by omega) (by omega)) d_La_law_653 ?_
                  refine aw_ti (y := nI j) (by rw [nI_clamp (by omega)]; exact hc0.symm) ?_
                  refine lv_aload_n hx hb d_La_law_654 rfl (lv_at hl 1 rfl) ?_
                  refine lv_iload hx hb d_La_law_655 (lv_at hl 5 rfl) ?_
                  refine lv_iconst (v := nI 2) hx hb d_La_law_657 (by decide +kernel) ?_
                  refine lv_iadd hx hb d_La_law_658 ?_
                  refine aw_ti (nI_add (6 * t) 2) ?_
                  refine va_sld hx hb hX hbl hbA hS (i := (nI ((6 * t) + 2))) (vp_in_nI (by omega) (by omega)) d_La_law_659 ?_
                  refine aw_ti (y := s2) (by rw [nI_clamp (by omega)]; exact hs2.symm) ?_
                  have hj287 : ∀ x288 : Int32, (if s2 = 0 then nI 0 else nI 1) = x288 → W p l e room_1 s m #[Value.ref b] below meth c H locs ((85 + t) + 1) ((1246 + 6 * t) + 6) (lw_Z below #[Value.ref b] s) (F0 m 668 ls [.int x288, .int (nI j), .ref (aw_m ad 0)]) := by
                    intro x288 ebx288
                    refine lv_aload_n hx hb d_La_law_668 rfl (lv_at hl 1 rfl) ?_
                    refine lv_iload hx hb d_La_law_669 (lv_at hl 5 rfl) ?_
                    refine lv_iconst (v := nI 3) hx hb d_La_law_671 (by decide +kernel) ?_
                    refine lv_iadd hx hb d_La_law_672 ?_
                    refine aw_ti (nI_add (6 * t) 3) ?_
                    refine va_sld hx hb hX hbl hbA hS (i := (nI ((6 * t) + 3))) (vp_in_nI (by omega) (by omega)) d_La_law_673 ?_
                    refine aw_ti (y := nI k) (by rw [nI_clamp (by omega)]; exact hfr.symm) ?_
                    refine lv_aload_n hx hb d_La_law_674 rfl (lv_at hl 1 rfl) ?_
                    refine lv_iload hx hb d_La_law_675 (lv_at hl 5 rfl) ?_
                    refine lv_iconst (v := nI 4) hx hb d_La_law_677 (by decide +kernel) ?_
                    refine lv_iadd hx hb d_La_law_678 ?_
                    refine aw_ti (nI_add (6 * t) 4) ?_
                    refine va_sld hx hb hX hbl hbA hS (i := (nI ((6 * t) + 4))) (vp_in_nI (by omega) (by omega)) d_La_law_679 ?_
                    refine aw_ti (y := nI 0) (by rw [nI_clamp (by omega)]; exact hm0.symm) ?_
                    obtain ⟨_, he289⟩ := zr_M0 hSh
                    refine va_calli (va_runV (As := [.int (nI j), .int x288, .int (nI k), .int (nI 0)]) (rest := []) ⟨hx, hb, hml, hown, hG⟩ (k_Mo_feedXsV l D g ad N0 zG zO zX zY zA zB zM zI zL zK zN zF zQ j x288 k 0 hj (by omega) (by omega)) (aw_wV 4 hG gw_12_26 gw_12_23 gw_0_10 gw_12_24 gw_12_25 rfl rfl hd_Mo_feed ⟨Nat.le_of_ble_eq_true rfl, Nat.le_of_ble_eq_true rfl⟩) (ag_qV (va_recv hK hP rfl he289) hP hD hSh hU hS) rfl rfl hl.1 rfl (lv_room (Nat.le_of_ble_eq_true rfl)) d_La_law_680 ⟨by omega, by omega⟩) hS (fun _ _ h => h) (fun _ h => h) ?_
                    clear hP hD hSh hS he289
                    intro x290 u8 t8 H locs ht _ ex290 hB _ _ hS
                    obtain ⟨L, hP, hD, hSh⟩ := hB
                    rw [ht] at hP
                    clear ht
                    have ex290 := ex290.symm
                    refine lv_istore hx hb d_La_law_683 hl (by decide) rfl (fun ls hl => ?_)
                    have hl : lv_has ls 8 [(6, .int x290), (5, .int (nI 2)), (0, .ref b), (1, .ref (aw_r ad 0)), (2, .ref (aw_m ad 0)), (3, .ref (aw_o ad)), (4, .int (nI (6 * t)))] := hl
                    refine lv_goto (tgt := 837) hx hb d_La_law_685 (by decide) ?_
                    refine lv_iinc (k := 6) (v := nI (6 * t + 6)) hx hb d_La_law_837 hl rfl (aw_inc (6 * t) 6 6 (by decide +kernel)) (by decide) rfl (fun ls hl => ?_)
                    have hl : lv_has ls 8 [(4, .int (nI (6 * t + 6))), (6, .int x290), (5, .int (nI 2)), (0, .ref b), (1, .ref (aw_r ad 0)), (2, .ref (aw_m ad 0)), (3, .ref (aw_o ad))] := hl
                    refine lv_goto (tgt := 23) hx hb d_La_law_840 (by decide) ?_
                    have hl := lv_sub hl (l' := [(0, .ref b), (1, .ref (aw_r ad 0)), (2, .ref (aw_m ad 0)), (3, .ref (aw_o ad)), (4, .int (nI (6 * t + 6)))]) [3, 4, 5, 6, 0] rfl
                    refine W.widen (k := 85 + (t + 1)) (n := 1246 + 6 * (t + 1)) (by omega) (by omega) ?_
                    exact ih (t + 1) zG zO zX zY zA zB zM zI zL zK zN (nI 2) zQ _ _ L ls (by omega) hP hD hSh hR hS (by first | exact hl | simpa [Nat.mul_add] using hl)
                  refine lv_if_eq (tgt := 667) hx hb d_La_law_660 (by decide) (fun h9 => ?_) (fun h9 => ?_)
                  · refine lv_iconst (v := nI 0) hx hb d_La_law_667 (by decide +kernel) ?_
                    exact hj287 _ (if_pos h9)
                  · refine lv_iconst (v := nI 1) hx hb d_La_law_663 (by decide +kernel) ?_
                    refine lv_goto (tgt := 668) hx hb d_La_law_664 (by decide) ?_
                    exact hj287 _ (if_neg h9)
                refine lv_if_eq (tgt := 628) hx hb d_La_law_621 (by decide) (fun h9 => ?_) (fun h9 => ?_)
                · refine lv_iconst (v := nI 0) hx hb d_La_law_628 (by decide +kernel) ?_
                  exact hj284 _ (if_pos h9)
                · refine lv_iconst (v := nI 1) hx hb d_La_law_624 (by decide +kernel) ?_
                  refine lv_goto (tgt := 629) hx hb d_La_law_625 (by decide) ?_
                  exact hj284 _ (if_neg h9)
              · by_cases hm : (zG j).2 ≤ 1
                · obtain ⟨kc, hkc, hci, hco⟩ := hR.2.1 j hj (by omega)
                  refine lv_aload_n hx hb d_La_law_608 rfl (lv_at hl 1 rfl) ?_
                  refine lv_aload_n hx hb d_La_law_609 rfl (lv_at hl 0 rfl) ?_
                  refine lv_iload hx hb d_La_law_610 (lv_at hl 4 rfl) ?_
                  refine lv_iconst (v := nI 1) hx hb d_La_law_612 (by decide +kernel) ?_
                  refine lv_iadd hx hb d_La_law_613 ?_
                  refine aw_ti (nI_add (6 * t) 1) ?_
                  refine va_sld hx hb hX hbl hbA hS (i := (nI ((6 * t) + 1))) (vp_in_nI (by omega) (by omega)) d_La_law_614 ?_
                  refine aw_ti (y := nI j) (by rw [nI_clamp (by omega)]; exact hc0.symm) ?_
                  refine lv_aload_n hx hb d_La_law_615 rfl (lv_at hl 0 rfl) ?_
                  refine lv_iload hx hb d_La_law_616 (lv_at hl 4 rfl) ?_
                  refine lv_iconst (v := nI 2) hx hb d_La_law_618 (by decide +kernel) ?_
                  refine lv_iadd hx hb d_La_law_619 ?_
                  refine aw_ti (nI_add (6 * t) 2) ?_
                  refine va_sld hx hb hX hbl hbA hS (i := (nI ((6 * t) + 2))) (vp_in_nI (by omega) (by omega)) d_La_law_620 ?_
                  refine aw_ti (y := s2) (by rw [nI_clamp (by omega)]; exact hs2.symm) ?_
                  have hj291 : ∀ x292 : Int32, (if s2 = 0 then nI 0 else nI 1) = x292 → W p l e room_1 s m #[Value.ref b] below meth c H locs (85 + t) (1246 + 6 * t) (lw_Z below #[Value.ref b] s) (F0 m 629 ls [.int x292, .int (nI j), .ref (aw_r ad 0)]) := by
                    intro x292 ebx292
                    refine lv_aload_n hx hb d_La_law_629 rfl (lv_at hl 0 rfl) ?_
                    refine lv_iload hx hb d_La_law_630 (lv_at hl 4 rfl) ?_
                    refine lv_iconst (v := nI 3) hx hb d_La_law_632 (by decide +kernel) ?_
                    refine lv_iadd hx hb d_La_law_633 ?_
                    refine aw_ti (nI_add (6 * t) 3) ?_
                    refine va_sld hx hb hX hbl hbA hS (i := (nI ((6 * t) + 3))) (vp_in_nI (by omega) (by omega)) d_La_law_634 ?_
                    refine aw_ti (y := nI k) (by rw [nI_clamp (by omega)]; exact hfr.symm) ?_
                    refine lv_aload_n hx hb d_La_law_635 rfl (lv_at hl 0 rfl) ?_
                    refine lv_iload hx hb d_La_law_636 (lv_at hl 4 rfl) ?_
                    refine lv_iconst (v := nI 4) hx hb d_La_law_638 (by decide +kernel) ?_
                    refine lv_iadd hx hb d_La_law_639 ?_
                    refine aw_ti (nI_add (6 * t) 4) ?_
                    refine va_sld hx hb hX hbl hbA hS (i := (nI ((6 * t) + 4))) (vp_in_nI (by omega) (by omega)) d_La_law_640 ?_
                    refine aw_ti (y := nI 0) (by rw [nI_clamp (by omega)]; exact hm0.symm) ?_
                    refine lv_aload_n hx hb d_La_law_641 rfl (lv_at hl 3 rfl) ?_
                    refine va_calli (vx_runSW (As := [.ref (aw_r ad 0), .int (nI j), .int x292, .int (nI k), .int (nI 0), .ref (aw_o ad)]) (rest := []) ⟨hx, hb, hml, hown, hG⟩ (k_La_feed10bV l hst D g ad N0 zG zO zX zY zA zB zM zI zL zK zN zF zQ j x292 (nI k) hj (by omega) (by omega)) (aw_wW 6 hG gw_7_42 gw_7_40 gw_0_0 gw_7_41 rfl rfl hd_La_feed ⟨Nat.le_of_ble_eq_true rfl, Nat.le_of_ble_eq_true rfl⟩) (ag_qS hP hD hSh hU hS) rfl rfl hl.1 rfl (lv_room (Nat.le_of_ble_eq_true rfl)) d_La_law_642 ⟨by omega, by omega⟩) hS (fun _ _ h => h) (fun _ h => h) ?_
                    clear hP hD hSh hS
                    intro x293 u8 t8 H locs ht _ ex293 hB _ _ hS
                    obtain ⟨L, hP, hD, hSh⟩ := hB
                    rw [ht] at hP
                    clear ht
                    subst ex293
                    obtain ⟨zY294, ezY294⟩ : ∃ z : Nat → Nat → Int32, v_La_feed10bV_zY zY j = z := ⟨_, rfl⟩
                    rw [ezY294] at hSh
                    obtain ⟨zQ295, ezQ295⟩ : ∃ z : Int64, v_La_feed10bV_zQ zY j = z := ⟨_, rfl⟩
                    rw [ezQ295] at hSh
                    refine lv_istore hx hb d_La_law_645 hl (by decide) rfl (fun ls hl => ?_)
                    have hl : lv_has ls 8 [(5, .int (nI 0)), (0, .ref b), (1, .ref (aw_r ad 0)), (2, .ref (aw_m ad 0)), (3, .ref (aw_o ad)), (4, .int (nI (6 * t)))] := hl
                    refine lv_aload_n hx hb d_La_law_647 rfl (lv_at hl 3 rfl) ?_
                    refine lv_aload_n hx hb d_La_law_648 rfl (lv_at hl 1 rfl) ?_
                    refine lv_iload hx hb d_La_law_649 (lv_at hl 5 rfl) ?_
                    refine lv_iconst (v := nI 1) hx hb d_La_law_651 (by decide +kernel) ?_
                    refine lv_iadd hx hb d_La_law_652 ?_
                    refine aw_ti (nI_add (6 * t) 1) ?_
                    refine va_sld hx hb hX hbl hbA hS (i := (nI ((6 * t) + 1))) (vp_in_nI (by omega) (by omega)) d_La_law_653 ?_
                    refine aw_ti (y := nI j) (by rw [nI_clamp (by omega)]; exact hc0.symm) ?_
                    refine lv_aload_n hx hb d_La_law_654 rfl (lv_at hl 1 rfl) ?_
                    refine lv_iload hx hb d_La_law_655 (lv_at hl 5 rfl) ?_
                    refine lv_iconst (v := nI 2) hx hb d_La_law_657 (by decide +kernel) ?_
                    refine lv_iadd hx hb d_La_law_658 ?_
                    refine aw_ti (nI_add (6 * t) 2) ?_
                    refine va_sld hx hb hX hbl hbA hS (i := (nI ((6 * t) + 2))) (vp_in_nI (by omega) (by omega)) d_La_law_659 ?_
                    refine aw_ti (y := s2) (by rw [nI_clamp (by omega)]; exact hs2.symm) ?_
                    have hj296 : ∀ x297 : Int32, (if s2 = 0 then nI 0 else nI 1) = x297 → W p l e room_1 s m #[Value.ref b] below meth c H locs ((85 + t) + 1) ((1246 + 6 * t) + 6) (lw_Z below #[Value.ref b] s) (F0 m 668 ls [.int x297, .int (nI j), .ref (aw_m ad 0)]) := by
                      intro x297 ebx297
                      refine lv_aload_n hx hb d_La_law_668 rfl (lv_at hl 1 rfl) ?_
                      refine lv_iload hx hb d_La_law_669 (lv_at hl 5 rfl) ?_
                      refine lv_iconst (v := nI 3) hx hb d_La_law_671 (by decide +kernel) ?_
                      refine lv_iadd hx hb d_La_law_672 ?_
                      refine aw_ti (nI_add (6 * t) 3) ?_
                      refine va_sld hx hb hX hbl hbA hS (i := (nI ((6 * t) + 3))) (vp_in_nI (by omega) (by omega)) d_La_law_673 ?_
                      refine aw_ti (y := nI k) (by rw [nI_clamp (by omega)]; exact hfr.symm) ?_
                      refine lv_aload_n hx hb d_La_law_674 rfl (lv_at hl 1 rfl) ?_
                      refine lv_iload hx hb d_La_law_675 (lv_at hl 5 rfl) ?_
                      refine lv_iconst (v := nI 4) hx hb d_La_law_677 (by decide +kernel) ?_
                      refine lv_iadd hx hb d_La_law_678 ?_
                      refine aw_ti (nI_add (6 * t) 4) ?_
                      refine va_sld hx hb hX hbl hbA hS (i := (nI ((6 * t) + 4))) (vp_in_nI (by omega) (by omega)) d_La_law_679 ?_
                      refine aw_ti (y := nI 0) (by rw [nI_clamp (by omega)]; exact hm0.symm) ?_
                      obtain ⟨_, he298⟩ := zr_M0 hSh
                      refine va_calli (va_runV (As := [.int (nI j), .int x297, .int (nI k), .int (nI 0)]) (rest := []) ⟨hx, hb, hml, hown, hG⟩ (k_Mo_feed8V l D g ad N0 zG zO zX zY294 zA zB zM zI zL zK zN zF zQ295 j kc x297 k 0 hj (by omega) (by omega) (by omega) (by omega) hkc hci) (aw_wV 4 hG gw_12_26 gw_12_23 gw_0_10 gw_12_24 gw_12_25 rfl rfl hd_Mo_feed ⟨Nat.le_of_ble_eq_true rfl, Nat.le_of_ble_eq_true rfl⟩) (ag_qV (va_recv hK hP rfl he298) hP hD hSh hU hS) rfl rfl hl.1 rfl (lv_room (Nat.le_of_ble_eq_true rfl)) d_La_law_680 ⟨by omega, by omega⟩) hS (fun _ _ h => h) (fun _ h => h) ?_
                      clear hP hD hSh hS he298
                      intro x299 u8 t8 H locs ht _ ex299 hB _ _ hS
                      obtain ⟨L, hP, hD, hSh⟩ := hB
                      rw [ht] at hP
                      clear ht
                      obtain ⟨zI300, ezI300⟩ : ∃ z : Nat → Nat → Int32, v_Mo_feed8V_zI zM zI zL j kc x297 k 0 = z := ⟨_, rfl⟩
                      rw [ezI300] at hSh
                      obtain ⟨zL301, ezL301⟩ : ∃ z : Nat → Nat → Int64, v_Mo_feed8V_zL zM zI zL j kc x297 k 0 = z := ⟨_, rfl⟩
                      rw [ezL301] at hSh
                      have ex299 := ex299.symm
                      refine lv_istore hx hb d_La_law_683 hl (by decide) rfl (fun ls hl => ?_)
                      have hl : lv_has ls 8 [(6, .int x299), (5, .int (nI 0)), (0, .ref b), (1, .ref (aw_r ad 0)), (2, .ref (aw_m ad 0)), (3, .ref (aw_o ad)), (4, .int (nI (6 * t)))] := hl
                      refine lv_goto (tgt := 837) hx hb d_La_law_685 (by decide) ?_
                      refine lv_iinc (k := 6) (v := nI (6 * t + 6)) hx hb d_La_law_837 hl rfl (aw_inc (6 * t) 6 6 (by decide +kernel)) (by decide) rfl (fun ls hl => ?_)
                      have hl : lv_has ls 8 [(4, .int (nI (6 * t + 6))), (6, .int x299), (5, .int (nI 0)), (0, .ref b), (1, .ref (aw_r ad 0)), (2, .ref (aw_m ad 0)), (3, .ref (aw_o ad))] := hl
                      refine lv_goto (tgt := 23) hx hb d_La_law_840 (by decide) ?_
                      have hl := lv_sub hl (l' := [(0, .ref b), (1, .ref (aw_r ad 0)), (2, .ref (aw_m ad 0)), (3, .ref (aw_o ad)), (4, .int (nI (6 * t + 6)))]) [3, 4, 5, 6, 0] rfl
                      refine W.widen (k := 85 + (t + 1)) (n := 1246 + 6 * (t + 1)) (by omega) (by omega) ?_
                      have hR : az_R zG zO zX zY294 zA zB zM zI300 zL301 := by
                        subst ex299 ezL301 ezI300 ebx297 ezQ295 ezY294 ebx292
                        exact r_feed10b_8 hR hj hs hm hk hkc hci hco
                      exact ih (t + 1) zG zO zX zY294 zA zB zM zI300 zL301 (nI kc) (az_wn kc) (nI 0) zQ295 _ _ L ls (by omega) hP hD hSh hR hS (by first | exact hl | simpa [Nat.mul_add] using hl)
                    refine lv_if_eq (tgt := 667) hx hb d_La_law_660 (by decide) (fun h9 => ?_) (fun h9 => ?_)
                    · refine lv_iconst (v := nI 0) hx hb d_La_law_667 (by decide +kernel) ?_
                      exact hj296 _ (if_pos h9)
                    · refine lv_iconst (v := nI 1) hx hb d_La_law_663 (by decide +kernel) ?_
                      refine lv_goto (tgt := 668) hx hb d_La_law_664 (by decide) ?_
                      exact hj296 _ (if_neg h9)
                  refine lv_if_eq (tgt := 628) hx hb d_La_law_621 (by decide) (fun h9 => ?_) (fun h9 => ?_)
                  · refine lv_iconst (v := nI 0) hx hb d_La_law_628 (by decide +kernel) ?_
                    exact hj291 _ (if_pos h9)
                  · refine lv_iconst (v := nI 1) hx hb d_La_law_624 (by decide +kernel) ?_
                    refine lv_goto (tgt := 629) hx hb d_La_law_625 (by decide) ?_
                    exact hj291 _ (if_neg h9)
                · obtain ⟨kc, hkc, hci, hco⟩ := hR.2.1 j hj (by omega)
                  refine lv_aload_n hx hb d_La_law_608 rfl (lv_at hl 1 rfl) ?_
                  refine lv_aload_n hx hb d_La_law_609 rfl (lv_at hl 0 rfl) ?_
                  refine lv_iload hx hb d_La_law_610 (lv_at hl 4 rfl) ?_
                  refine lv_iconst (v := nI 1) hx hb d_La_law_612 (by decide +kernel) ?_
                  refine lv_iadd hx hb d_La_law_613 ?_
                  refine aw_ti (nI_add (6 * t) 1) ?_
                  refine va_sld hx hb hX hbl hbA hS (i := (nI ((6 * t) + 1))) (vp_in_nI (by omega) (by omega)) d_La_law_614 ?_
                  refine aw_ti (y := nI j) (by rw [nI_clamp (by omega)]; exact hc0.symm) ?_
                  refine lv_aload_n hx hb d_La_law_615 rfl (lv_at hl 0 rfl) ?_
                  refine lv_iload hx hb d_La_law_616 (lv_at hl 4 rfl) ?_
                  refine lv_iconst (v := nI 2) hx hb d_La_law_618 (by decide +kernel) ?_
                  refine lv_iadd hx hb d_La_law_619 ?_
                  refine aw_ti (nI_add (6 * t) 2) ?_
                  refine va_sld hx hb hX hbl hbA hS (i := (nI ((6 * t) + 2))) (vp_in_nI (by omega) (by omega)) d_La_law_620 ?_
                  refine aw_ti (y := s2) (by rw [nI_clamp (by omega)]; exact hs2.symm) ?_
                  have hj302 : ∀ x303 : Int32, (if s2 = 0 then nI 0 else nI 1) = x303 → W p l e room_1 s m #[Value.ref b] below meth c H locs (85 + t) (1246 + 6 * t) (lw_Z below #[Value.ref b] s) (F0 m 629 ls [.int x303, .int (nI j), .ref (aw_r ad 0)]) := by
                    intro x303 ebx303
                    refine lv_aload_n hx hb d_La_law_629 rfl (lv_at hl 0 rfl) ?_
                    refine lv_iload hx hb d_La_law_630 (lv_at hl 4 rfl) ?_
                    refine lv_iconst (v := nI 3) hx hb d_La_law_632 (by decide +kernel) ?_
                    refine lv_iadd hx hb d_La_law_633 ?_
                    refine aw_ti (nI_add (6 * t) 3) ?_
                    refine va_sld hx hb hX hbl hbA hS (i := (nI ((6 * t) + 3))) (vp_in_nI (by omega) (by omega)) d_La_law_634 ?_
                    refine aw_ti (y := nI k) (by rw [nI_clamp (by omega)]; exact hfr.symm) ?_
                    refine lv_aload_n hx hb d_La_law_635 rfl (lv_at hl 0 rfl) ?_
                    refine lv_iload hx hb d_La_law_636 (lv_at hl 4 rfl) ?_
                    refine lv_iconst (v := nI 4) hx hb d_La_law_638 (by decide +kernel) ?_
                    refine lv_iadd hx hb d_La_law_639 ?_
                    refine aw_ti (nI_add (6 * t) 4) ?_
                    refine va_sld hx hb hX hbl hbA hS (i := (nI ((6 * t) + 4))) (vp_in_nI (by omega) (by omega)) d_La_law_640 ?_
                    refine aw_ti (y := nI 0) (by rw [nI_clamp (by omega)]; exact hm0.symm) ?_
                    refine lv_aload_n hx hb d_La_law_641 rfl (lv_at hl 3 rfl) ?_
                    refine va_calli (vx_runSW (As := [.ref (aw_r ad 0), .int (nI j), .int x303, .int (nI k), .int (nI 0), .ref (aw_o ad)]) (rest := []) ⟨hx, hb, hml, hown, hG⟩ (k_La_feed10V l hst D g ad N0 zG zO zX zY zA zB zM zI zL zK zN zF zQ j x303 (nI k) hj (by omega) (by omega) (by omega)) (aw_wW 6 hG gw_7_42 gw_7_40 gw_0_0 gw_7_41 rfl rfl hd_La_feed ⟨Nat.le_of_ble_eq_true rfl, Nat.le_of_ble_eq_true rfl⟩) (ag_qS hP hD hSh hU hS) rfl rfl hl.1 rfl (lv_room (Nat.le_of_ble_eq_true rfl)) d_La_law_642 ⟨by omega, by omega⟩) hS (fun _ _ h => h) (fun _ h => h) ?_
                    clear hP hD hSh hS
                    intro x304 u8 t8 H locs ht _ ex304 hB _ _ hS
                    obtain ⟨L, hP, hD, hSh⟩ := hB
                    rw [ht] at hP
                    clear ht
                    subst ex304
                    obtain ⟨zY305, ezY305⟩ : ∃ z : Nat → Nat → Int32, v_La_feed10V_zY zY j = z := ⟨_, rfl⟩
                    rw [ezY305] at hSh
                    obtain ⟨zQ306, ezQ306⟩ : ∃ z : Int64, v_La_feed10V_zQ zY j = z := ⟨_, rfl⟩
                    rw [ezQ306] at hSh
                    refine lv_istore hx hb d_La_law_645 hl (by decide) rfl (fun ls hl => ?_)
                    have hl : lv_has ls 8 [(5, .int (nI 0)), (0, .ref b), (1, .ref (aw_r ad 0)), (2, .ref (aw_m ad 0)), (3, .ref (aw_o ad)), (4, .int (nI (6 * t)))] := hl
                    refine lv_aload_n hx hb d_La_law_647 rfl (lv_at hl 3 rfl) ?_
                    refine lv_aload_n hx hb d_La_law_648 rfl (lv_at hl 1 rfl) ?_
                    refine lv_iload hx hb d_La_law_649 (lv_at hl 5 rfl) ?_
                    refine lv_iconst (v := nI 1) hx hb d_La_law_651 (by decide +kernel) ?_
                    refine lv_iadd hx hb d_La_law_652 ?_
                    refine aw_ti (nI_add (6 * t) 1) ?_
                    refine va_sld hx hb hX hbl hbA hS (i := (nI ((6 * t) + 1))) (vp_in_nI (by omega) (by omega)) d_La_law_653 ?_
                    refine aw_ti (y := nI j) (by rw [nI_clamp (by omega)]; exact hc0.symm) ?_
                    refine lv_aload_n hx hb d_La_law_654 rfl (lv_at hl 1 rfl) ?_
                    refine lv_iload hx hb d_La_law_655 (lv_at hl 5 rfl) ?_
                    refine lv_iconst (v := nI 2) hx hb d_La_law_657 (by decide +kernel) ?_
                    refine lv_iadd hx hb d_La_law_658 ?_
                    refine aw_ti (nI_add (6 * t) 2) ?_
                    refine va_sld hx hb hX hbl hbA hS (i := (nI ((6 * t) + 2))) (vp_in_nI (by omega) (by omega)) d_La_law_659 ?_
                    refine aw_ti (y := s2) (by rw [nI_clamp (by omega)]; exact hs2.symm) ?_
                    have hj307 : ∀ x308 : Int32, (if s2 = 0 then nI 0 else nI 1) = x308 → W p l e room_1 s m #[Value.ref b] below meth c H locs ((85 + t) + 1) ((1246 + 6 * t) + 6) (lw_Z below #[Value.ref b] s) (F0 m 668 ls [.int x308, .int (nI j), .ref (aw_m ad 0)]) := by
                      intro x308 ebx308
                      refine lv_aload_n hx hb d_La_law_668 rfl (lv_at hl 1 rfl) ?_
                      refine lv_iload hx hb d_La_law_669 (lv_at hl 5 rfl) ?_
                      refine lv_iconst (v := nI 3) hx hb d_La_law_671 (by decide +kernel) ?_
                      refine lv_iadd hx hb d_La_law_672 ?_
                      refine aw_ti (nI_add (6 * t) 3) ?_
                      refine va_sld hx hb hX hbl hbA hS (i := (nI ((6 * t) + 3))) (vp_in_nI (by omega) (by omega)) d_La_law_673 ?_
                      refine aw_ti (y := nI k) (by rw [nI_clamp (by omega)]; exact hfr.symm) ?_
                      refine lv_aload_n hx hb d_La_law_674 rfl (lv_at hl 1 rfl) ?_
                      refine lv_iload hx hb d_La_law_675 (lv_at hl 5 rfl) ?_
                      refine lv_iconst (v := nI 4) hx hb d_La_law_677 (by decide +kernel) ?_
                      refine lv_iadd hx hb d_La_law_678 ?_
                      refine aw_ti (nI_add (6 * t) 4) ?_
                      refine va_sld hx hb hX hbl hbA hS (i := (nI ((6 * t) + 4))) (vp_in_nI (by omega) (by omega)) d_La_law_679 ?_
                      refine aw_ti (y := nI 0) (by rw [nI_clamp (by omega)]; exact hm0.symm) ?_
                      obtain ⟨_, he309⟩ := zr_M0 hSh
                      refine va_calli (va_runV (As := [.int (nI j), .int x308, .int (nI k), .int (nI 0)]) (rest := []) ⟨hx, hb, hml, hown, hG⟩ (k_Mo_feed1V l D g ad N0 zG zO zX zY305 zA zB zM zI zL zK zN zF zQ306 j kc x308 k 0 hj (by omega) (by omega) (by omega) (by omega) hkc hci) (aw_wV 4 hG gw_12_26 gw_12_23 gw_0_10 gw_12_24 gw_12_25 rfl rfl hd_Mo_feed ⟨Nat.le_of_ble_eq_true rfl, Nat.le_of_ble_eq_true rfl⟩) (ag_qV (va_recv hK hP rfl he309) hP hD hSh hU hS) rfl rfl hl.1 rfl (lv_room (Nat.le_of_ble_eq_true rfl)) d_La_law_680 ⟨by omega, by omega⟩) hS (fun _ _ h => h) (fun _ h => h) ?_
                      clear hP hD hSh hS he309
                      intro x310 u8 t8 H locs ht _ ex310 hB _ _ hS
                      obtain ⟨L, hP, hD, hSh⟩ := hB
                      rw [ht] at hP
                      clear ht
                      obtain ⟨zI311, ezI311⟩ : ∃ z : Nat → Nat → Int32, v_Mo_feed1V_zI zM zI zL j kc x308 k 0 = z := ⟨_, rfl⟩
                      rw [ezI311] at hSh
                      obtain ⟨zL312, ezL312⟩ : ∃ z : Nat → Nat → Int64, v_Mo_feed1V_zL zM zI zL j kc x308 k 0 = z := ⟨_, rfl⟩
                      rw [ezL312] at hSh
                      have ex310 := ex310.symm
                      refine lv_istore hx hb d_La_law_683 hl (by decide) rfl (fun ls hl => ?_)
                      have hl : lv_has ls 8 [(6, .int x310), (5, .int (nI 0)), (0, .ref b), (1, .ref (aw_r ad 0)), (2, .ref (aw_m ad 0)), (3, .ref (aw_o ad)), (4, .int (nI (6 * t)))] := hl
                      refine lv_goto (tgt := 837) hx hb d_La_law_685 (by decide) ?_
                      refine lv_iinc (k := 6) (v := nI (6 * t + 6)) hx hb d_La_law_837 hl rfl (aw_inc (6 * t) 6 6 (by decide +kernel)) (by decide) rfl (fun ls hl => ?_)
                      have hl : lv_has ls 8 [(4, .int (nI (6 * t + 6))), (6, .int x310), (5, .int (nI 0)), (0, .ref b), (1, .ref (aw_r ad 0)), (2, .ref (aw_m ad 0)), (3, .ref (aw_o ad))] := hl
                      refine lv_goto (tgt := 23) hx hb d_La_law_840 (by decide) ?_
                      have hl := lv_sub hl (l' := [(0, .ref b), (1, .ref (aw_r ad 0)), (2, .ref (aw_m ad 0)), (3, .ref (aw_o ad)), (4, .int (nI (6 * t + 6)))]) [3, 4, 5, 6, 0] rfl
                      refine W.widen (k := 85 + (t + 1)) (n := 1246 + 6 * (t + 1)) (by omega) (by omega) ?_
                      have hR : az_R zG zO zX zY305 zA zB zM zI311 zL312 := by
                        subst ex310 ezL312 ezI311 ebx308 ezQ306 ezY305 ebx303
                        exact r_feed10_1 hR hj hs (by omega) (by omega) hk hkc hci hco
                      exact ih (t + 1) zG zO zX zY305 zA zB zM zI311 zL312 (nI kc) (az_wn kc) (nI 0) zQ306 _ _ L ls (by omega) hP hD hSh hR hS (by first | exact hl | simpa [Nat.mul_add] using hl)
                    refine lv_if_eq (tgt := 667) hx hb d_La_law_660 (by decide) (fun h9 => ?_) (fun h9 => ?_)
                    · refine lv_iconst (v := nI 0) hx hb d_La_law_667 (by decide +kernel) ?_
                      exact hj307 _ (if_pos h9)
                    · refine lv_iconst (v := nI 1) hx hb d_La_law_663 (by decide +kernel) ?_
                      refine lv_goto (tgt := 668) hx hb d_La_law_664 (by decide) ?_
                      exact hj307 _ (if_neg h9)
                  refine lv_if_eq (tgt := 628) hx hb d_La_law_621 (by decide) (fun h9 => ?_) (fun h9 => ?_)
                  · refine lv_iconst (v := nI 0) hx hb d_La_law_628 (by decide +kernel) ?_
                    exact hj302 _ (if_pos h9)
                  · refine lv_iconst (v := nI 1) hx hb d_La_law_624 (by decide +kernel) ?_
                    refine lv_goto (tgt := 629) hx hb d_La_law_625 (by decide) ?_
                    exact hj302 _ (if_neg h9)
            · refine lv_aload_n hx hb d_La_law_608 rfl (lv_at hl 1 rfl) ?_
              refine lv_aload_n hx hb d_La_law_609 rfl (lv_at hl 0 rfl) ?_
              refine lv_iload hx hb d_La_law_610 (lv_at hl 4 rfl) ?_
              refine lv_iconst (v := nI 1) hx hb d_La_law_612 (by decide +kernel) ?_
              refine lv_iadd hx hb d_La_law_613 ?_
              refine aw_ti (nI_add (6 * t) 1) ?_
              refine va_sld hx hb hX hbl hbA hS (i := (nI ((6 * t) + 1))) (vp_in_nI (by omega) (by omega)) d_La_law_614 ?_
              refine aw_ti (y := nI j) (by rw [nI_clamp (by omega)]; exact hc0.symm) ?_
              refine lv_aload_n hx hb d_La_law_615 rfl (lv_at hl 0 rfl) ?_
              refine lv_iload hx hb d_La_law_616 (lv_at hl 4 rfl) ?_
              refine lv_iconst (v := nI 2) hx hb d_La_law_618 (by decide +kernel) ?_
              refine lv_iadd hx hb d_La_law_619 ?_
              refine aw_ti (nI_add (6 * t) 2) ?_
              refine va_sld hx hb hX hbl hbA hS (i := (nI ((6 * t) + 2))) (vp_in_nI (by omega) (by omega)) d_La_law_620 ?_
              refine aw_ti (y := s2) (by rw [nI_clamp (by omega)]; exact hs2.symm) ?_
              have hj313 : ∀ x314 : Int32, (if s2 = 0 then nI 0 else nI 1) = x314 → W p l e room_1 s m #[Value.ref b] below meth c H locs (85 + t) (1246 + 6 * t) (lw_Z below #[Value.ref b] s) (F0 m 629 ls [.int x314, .int (nI j), .ref (aw_r ad 0)]) := by
                intro x314 ebx314
                refine lv_aload_n hx hb d_La_law_629 rfl (lv_at hl 0 rfl) ?_
                refine lv_iload hx hb d_La_law_630 (lv_at hl 4 rfl) ?_
                refine lv_iconst (v := nI 3) hx hb d_La_law_632 (by decide +kernel) ?_
                refine lv_iadd hx hb d_La_law_633 ?_
                refine aw_ti (nI_add (6 * t) 3) ?_
                refine va_sld hx hb hX hbl hbA hS (i := (nI ((6 * t) + 3))) (vp_in_nI (by omega) (by omega)) d_La_law_634 ?_
                refine aw_ti (y := nI k) (by rw [nI_clamp (by omega)]; exact hfr.symm) ?_
                refine lv_aload_n hx hb d_La_law_635 rfl (lv_at hl 0 rfl) ?_
                refine lv_iload hx hb d_La_law_636 (lv_at hl 4 rfl) ?_
                refine lv_iconst (v := nI 4) hx hb d_La_law_638 (by decide +kernel) ?_
                refine lv_iadd hx hb d_La_law_639 ?_
                refine aw_ti (nI_add (6 * t) 4) ?_
                refine va_sld hx hb hX hbl hbA hS (i := (nI ((6 * t) + 4))) (vp_in_nI (by omega) (by omega)) d_La_law_640 ?_
                refine aw_ti (y := nI 0) (by rw [nI_clamp (by omega)]; exact hm0.symm) ?_
                refine lv_aload_n hx hb d_La_law_641 rfl (lv_at hl 3 rfl) ?_
                refine va_calli (vx_runSW (As := [.ref (aw_r ad 0), .int (nI j), .int x314, .int (nI k), .int (nI 0), .ref (aw_o ad)]) (rest := []) ⟨hx, hb, hml, hown, hG⟩ (k_La_feedXs0V l hst D g ad N0 zG zO zX zY zA zB zM zI zL zK zN zF zQ j x314 (nI k) hj (by omega)) (aw_wW 6 hG gw_7_42 gw_7_40 gw_0_0 gw_7_41 rfl rfl hd_La_feed ⟨Nat.le_of_ble_eq_true rfl, Nat.le_of_ble_eq_true rfl⟩) (ag_qS hP hD hSh hU hS) rfl rfl hl.1 rfl (lv_room (Nat.le_of_ble_eq_true rfl)) d_La_law_642 ⟨by omega, by omega⟩) hS (fun _ _ h => h) (fun _ h => h) ?_
                clear hP hD hSh hS
                intro x315 u8 t8 H locs ht _ ex315 hB _ _ hS
                obtain ⟨L, hP, hD, hSh⟩ := hB
                rw [ht] at hP
                clear ht
                subst ex315
                refine lv_istore hx hb d_La_law_645 hl (by decide) rfl (fun ls hl => ?_)
                have hl : lv_has ls 8 [(5, .int (nI 2)), (0, .ref b), (1, .ref (aw_r ad 0)), (2, .ref (aw_m ad 0)), (3, .ref (aw_o ad)), (4, .int (nI (6 * t)))] := hl
                refine lv_aload_n hx hb d_La_law_647 rfl (lv_at hl 3 rfl) ?_
                refine lv_aload_n hx hb d_La_law_648 rfl (lv_at hl 1 rfl) ?_
                refine lv_iload hx hb d_La_law_649 (lv_at hl 5 rfl) ?_
                refine lv_iconst (v := nI 1) hx hb d_La_law_651 (by decide +kernel) ?_
                refine lv_iadd hx hb d_La_law_652 ?_
                refine aw_ti (nI_add (6 * t) 1) ?_
                refine va_sld hx hb hX hbl hbA hS (i := (nI ((6 * t) + 1))) (vp_in_nI (by omega) (by omega)) d_La_law_653 ?_
                refine aw_ti (y := nI j) (by rw [nI_clamp (by omega)]; exact hc0.symm) ?_
                refine lv_aload_n hx hb d_La_law_654 rfl (lv_at hl 1 rfl) ?_
                refine lv_iload hx hb d_La_law_655 (lv_at hl 5 rfl) ?_
                refine lv_iconst (v := nI 2) hx hb d_La_law_657 (by decide +kernel) ?_
                refine lv_iadd hx hb d_La_law_658 ?_
                refine aw_ti (nI_add (6 * t) 2) ?_
                refine va_sld hx hb hX hbl hbA hS (i := (nI ((6 * t) + 2))) (vp_in_nI (by omega) (by omega)) d_La_law_659 ?_
                refine aw_ti (y := s2) (by rw [nI_clamp (by omega)]; exact hs2.symm) ?_
                have hj316 : ∀ x317 : Int32, (if s2 = 0 then nI 0 else nI 1) = x317 → W p l e room_1 s m #[Value.ref b] below meth c H locs ((85 + t) + 1) ((1246 + 6 * t) + 6) (lw_Z below #[Value.ref b] s) (F0 m 668 ls [.int x317, .int (nI j), .ref (aw_m ad 0)]) := by
                  intro x317 ebx317
                  refine lv_aload_n hx hb d_La_law_668 rfl (lv_at hl 1 rfl) ?_
                  refine lv_iload hx hb d_La_law_669 (lv_at hl 5 rfl) ?_
                  refine lv_iconst (v := nI 3) hx hb d_La_law_671 (by decide +kernel) ?_
                  refine lv_iadd hx hb d_La_law_672 ?_
                  refine aw_ti (nI_add (6 * t) 3) ?_
                  refine va_sld hx hb hX hbl hbA hS (i := (nI ((6 * t) + 3))) (vp_in_nI (by omega) (by omega)) d_La_law_673 ?_
                  refine aw_ti (y := nI k) (by rw [nI_clamp (by omega)]; exact hfr.symm) ?_
                  refine lv_aload_n hx hb d_La_law_674 rfl (lv_at hl 1 rfl) ?_
                  refine lv_iload hx hb d_La_law_675 (lv_at hl 5 rfl) ?_
                  refine lv_iconst (v := nI 4) hx hb d_La_law_677 (by decide +kernel) ?_
                  refine lv_iadd hx hb d_La_law_678 ?_
                  refine aw_ti (nI_add (6 * t) 4) ?_
                  refine va_sld hx hb hX hbl hbA hS (i := (nI ((6 * t) + 4))) (vp_in_nI (by omega) (by omega)) d_La_law_679 ?_
                  refine aw_ti (y := nI 0) (by rw [nI_clamp (by omega)]; exact hm0.symm) ?_
                  obtain ⟨_, he318⟩ := zr_M0 hSh
                  refine va_calli (va_runV (As := [.int (nI j), .int x317, .int (nI k), .int (nI 0)]) (rest := []) ⟨hx, hb, hml, hown, hG⟩ (k_Mo_feedXsV l D g ad N0 zG zO zX zY zA zB zM zI zL zK zN zF zQ j x317 k 0 hj (by omega) (by omega)) (aw_wV 4 hG gw_12_26 gw_12_23 gw_0_10 gw_12_24 gw_12_25 rfl rfl hd_Mo_feed ⟨Nat.le_of_ble_eq_true rfl, Nat.le_of_ble_eq_true rfl⟩) (ag_qV (va_recv hK hP rfl he318) hP hD hSh hU hS) rfl rfl hl.1 rfl (lv_room (Nat.le_of_ble_eq_true rfl)) d_La_law_680 ⟨by omega, by omega⟩) hS (fun _ _ h => h) (fun _ h => h) ?_
                  clear hP hD hSh hS he318
                  intro x319 u8 t8 H locs ht _ ex319 hB _ _ hS
                  obtain ⟨L, hP, hD, hSh⟩ := hB
                  rw [ht] at hP
                  clear ht
                  have ex319 := ex319.symm
                  refine lv_istore hx hb d_La_law_683 hl (by decide) rfl (fun ls hl => ?_)
                  have hl : lv_has ls 8 [(6, .int x319), (5, .int (nI 2)), (0, .ref b), (1, .ref (aw_r ad 0)), (2, .ref (aw_m ad 0)), (3, .ref (aw_o ad)), (4, .int (nI (6 * t)))] := hl
                  refine lv_goto (tgt := 837) hx hb d_La_law_685 (by decide) ?_
                  refine lv_iinc (k := 6) (v := nI (6 * t + 6)) hx hb d_La_law_837 hl rfl (aw_inc (6 * t) 6 6 (by decide +kernel)) (by decide) rfl (fun ls hl => ?_)
                  have hl : lv_has ls 8 [(4, .int (nI (6 * t + 6))), (6, .int x319), (5, .int (nI 2)), (0, .ref b), (1, .ref (aw_r ad 0)), (2, .ref (aw_m ad 0)), (3, .ref (aw_o ad))] := hl
                  refine lv_goto (tgt := 23) hx hb d_La_law_840 (by decide) ?_
                  have hl := lv_sub hl (l' := [(0, .ref b), (1, .ref (aw_r ad 0)), (2, .ref (aw_m ad 0)), (3, .ref (aw_o ad)), (4, .int (nI (6 * t + 6)))]) [3, 4, 5, 6, 0] rfl
                  refine W.widen (k := 85 + (t + 1)) (n := 1246 + 6 * (t + 1)) (by omega) (by omega) ?_
                  exact ih (t + 1) zG zO zX zY zA zB zM zI zL zK zN (nI 2) zQ _ _ L ls (by omega) hP hD hSh hR hS (by first | exact hl | simpa [Nat.mul_add] using hl)
                refine lv_if_eq (tgt := 667) hx hb d_La_law_660 (by decide) (fun h9 => ?_) (fun h9 => ?_)
                · refine lv_iconst (v := nI 0) hx hb d_La_law_667 (by decide +kernel) ?_
                  exact hj316 _ (if_pos h9)
                · refine lv_iconst (v := nI 1) hx hb d_La_law_663 (by decide +kernel) ?_
                  refine lv_goto (tgt := 668) hx hb d_La_law_664 (by decide) ?_
                  exact hj316 _ (if_neg h9)
              refine lv_if_eq (tgt := 628) hx hb d_La_law_621 (by decide) (fun h9 => ?_) (fun h9 => ?_)
              · refine lv_iconst (v := nI 0) hx hb d_La_law_628 (by decide +kernel) ?_
                exact hj313 _ (if_pos h9)
              · refine lv_iconst (v := nI 1) hx hb d_La_law_624 (by decide +kernel) ?_
                refine lv_goto (tgt := 629) hx hb d_La_law_625 (by decide) ?_
                exact hj313 _ (if_neg h9)
        · by_cases hs : (zG j).1 = 3
          · by_cases h5 : (zG j).2 = 5
            · refine lv_aload_n hx hb d_La_law_608 rfl (lv_at hl 1 rfl) ?_
              refine lv_aload_n hx hb d_La_law_609 rfl (lv_at hl 0 rfl) ?_
              refine lv_iload hx hb d_La_law_610 (lv_at hl 4 rfl) ?_
              refine lv_iconst (v := nI 1) hx hb d_La_law_612 (by decide +kernel) ?_
              refine lv_iadd hx hb d_La_law_613 ?_
              refine aw_ti (nI_add (6 * t) 1) ?_
              refine va_sld hx hb hX hbl hbA hS (i := (nI ((6 * t) + 1))) (vp_in_nI (by omega) (by omega)) d_La_law_614 ?_
              refine aw_ti (y := nI j) (by rw [nI_clamp (by omega)]; exact hc0.symm) ?_
              refine lv_aload_n hx hb d_La_law_615 rfl (lv_at hl 0 rfl) ?_
              refine lv_iload hx hb d_La_law_616 (lv_at hl 4 rfl) ?_
              refine lv_iconst (v := nI 2) hx hb d_La_law_618 (by decide +kernel) ?_
              refine lv_iadd hx hb d_La_law_619 ?_
              refine aw_ti (nI_add (6 * t) 2) ?_
              refine va_sld hx hb hX hbl hbA hS (i := (nI ((6 * t) + 2))) (vp_in_nI (by omega) (by omega)) d_La_law_620 ?_
              refine aw_ti (y := s2) (by rw [nI_clamp (by omega)]; exact hs2.symm) ?_
              have hj320 : ∀ x321 : Int32, (if s2 = 0 then nI 0 else nI 1) = x321 → W p l e room_1 s m #[Value.ref b] below meth c H locs (85 + t) (1246 + 6 * t) (lw_Z below #[Value.ref b] s) (F0 m 629 ls [.int x321, .int (nI j), .ref (aw_r ad 0)]) := by
                intro x321 ebx321
                refine lv_aload_n hx hb d_La_law_629 rfl (lv_at hl 0 rfl) ?_
                refine lv_iload hx hb d_La_law_630 (lv_at hl 4 rfl) ?_
                refine lv_iconst (v := nI 3) hx hb d_La_law_632 (by decide +kernel) ?_
                refine lv_iadd hx hb d_La_law_633 ?_
                refine aw_ti (nI_add (6 * t) 3) ?_
                refine va_sld hx hb hX hbl hbA hS (i := (nI ((6 * t) + 3))) (vp_in_nI (by omega) (by omega)) d_La_law_634 ?_
                refine aw_ti (y := nI k) (by rw [nI_clamp (by omega)]; exact hfr.symm) ?_
                refine lv_aload_n hx hb d_La_law_635 rfl (lv_at hl 0 rfl) ?_
                refine lv_iload hx hb d_La_law_636 (lv_at hl 4 rfl) ?_
                refine lv_iconst (v := nI 4) hx hb d_La_law_638 (by decide +kernel) ?_
                refine lv_iadd hx hb d_La_law_639 ?_
                refine aw_ti (nI_add (6 * t) 4) ?_
                refine va_sld hx hb hX hbl hbA hS (i := (nI ((6 * t) + 4))) (vp_in_nI (by omega) (by omega)) d_La_law_640 ?_
                refine aw_ti (y := nI mm) (by rw [nI_clamp (by omega)]; exact hm0.symm) ?_
                refine lv_aload_n hx hb d_La_law_641 rfl (lv_at hl 3 rfl) ?_
                refine va_calli (vx_runSW (As := [.ref (aw_r ad 0), .int (nI j), .int x321, .int (nI k), .int (nI mm), .ref (aw_o ad)]) (rest := []) ⟨hx, hb, hml, hown, hG⟩ (k_La_feedXs1V l hst D g ad N0 zG zO zX zY zA zB zM zI zL zK zN zF zQ j x321 k mm hj (by omega) (by omega) (by omega)) (aw_wW 6 hG gw_7_42 gw_7_40 gw_0_0 gw_7_41 rfl rfl hd_La_feed ⟨Nat.le_of_ble_eq_true rfl, Nat.le_of_ble_eq_true rfl⟩) (ag_qS hP hD hSh hU hS) rfl rfl hl.1 rfl (lv_room (Nat.le_of_ble_eq_true rfl)) d_La_law_642 ⟨by omega, by omega⟩) hS (fun _ _ h => h) (fun _ h => h) ?_
                clear hP hD hSh hS
                intro x322 u8 t8 H locs ht _ ex322 hB _ _ hS
                obtain ⟨L, hP, hD, hSh⟩ := hB
                rw [ht] at hP
                clear ht
                subst ex322
                refine lv_istore hx hb d_La_law_645 hl (by decide) rfl (fun ls hl => ?_)
                have hl : lv_has ls 8 [(5, .int (nI 2)), (0, .ref b), (1, .ref (aw_r ad 0)), (2, .ref (aw_m ad 0)), (3, .ref (aw_o ad)), (4, .int (nI (6 * t)))] := hl
                refine lv_aload_n hx hb d_La_law_647 rfl (lv_at hl 3 rfl) ?_
                refine lv_aload_n hx hb d_La_law_648 rfl (lv_at hl 1 rfl) ?_
                refine lv_iload hx hb d_La_law_649 (lv_at hl 5 rfl) ?_
                refine lv_iconst (v := nI 1) hx hb d_La_law_651 (by decide +kernel) ?_
                refine lv_iadd hx hb d_La_law_652 ?_
                refine aw_ti (nI_add (6 * t) 1) ?_
                refine va_sld hx hb hX hbl hbA hS (i := (nI ((6 * t) + 1))) (vp_in_nI (by omega) (by omega)) d_La_law_653 ?_
                refine aw_ti (y := nI j) (by rw [nI_clamp (by omega)]; exact hc0.symm) ?_
                refine lv_aload_n hx hb d_La_law_654 rfl (lv_at hl 1 rfl) ?_
                refine lv_iload hx hb d_La_law_655 (lv_at hl 5 rfl) ?_
                refine lv_iconst (v := nI 2) hx hb d_La_law_657 (by decide +kernel) ?_
                refine lv_iadd hx hb d_La_law_658 ?_
                refine aw_ti (nI_add (6 * t) 2) ?_
                refine va_sld hx hb hX hbl hbA hS (i := (nI ((6 * t) + 2))) (vp_in_nI (by omega) (by omega)) d_La_law_659 ?_
                refine aw_ti (y := s2) (by rw [nI_clamp (by omega)]; exact hs2.symm) ?_
                have hj323 : ∀ x324 : Int32, (if s2 = 0 then nI 0 else nI 1) = x324 → W p l e room_1 s m #[Value.ref b] below meth c H locs ((85 + t) + 1) ((1246 + 6 * t) + 6) (lw_Z below #[Value.ref b] s) (F0 m 668 ls [.int x324, .int (nI j), .ref (aw_m ad 0)]) := by
                  intro x324 ebx324
                  refine lv_aload_n hx hb d_La_law_668 rfl (lv_at hl 1 rfl) ?_
                  refine lv_iload hx hb d_La_law_669 (lv_at hl 5 rfl) ?_
                  refine lv_iconst (v := nI 3) hx hb d_La_law_671 (by decide +kernel) ?_
                  refine lv_iadd hx hb d_La_law_672 ?_
                  refine aw_ti (nI_add (6 * t) 3) ?_
                  refine va_sld hx hb hX hbl hbA hS (i := (nI ((6 * t) + 3))) (vp_in_nI (by omega) (by omega)) d_La_law_673 ?_
                  refine aw_ti (y := nI k) (by rw [nI_clamp (by omega)]; exact hfr.symm) ?_
                  refine lv_aload_n hx hb d_La_law_674 rfl (lv_at hl 1 rfl) ?_
                  refine lv_iload hx hb d_La_law_675 (lv_at hl 5 rfl) ?_
                  refine lv_iconst (v := nI 4) hx hb d_La_law_677 (by decide +kernel) ?_
                  refine lv_iadd hx hb d_La_law_678 ?_
                  refine aw_ti (nI_add (6 * t) 4) ?_
                  refine va_sld hx hb hX hbl hbA hS (i := (nI ((6 * t) + 4))) (vp_in_nI (by omega) (by omega)) d_La_law_679 ?_
                  refine aw_ti (y := nI mm) (by rw [nI_clamp (by omega)]; exact hm0.symm) ?_
                  obtain ⟨_, he325⟩ := zr_M0 hSh
                  refine va_calli (va_runV (As := [.int (nI j), .int x324, .int (nI k), .int (nI mm)]) (rest := []) ⟨hx, hb, hml, hown, hG⟩ (k_Mo_feedXsV l D g ad N0 zG zO zX zY zA zB zM zI zL zK zN zF zQ j x324 k mm hj (by omega) (by omega)) (aw_wV 4 hG gw_12_26 gw_12_23 gw_0_10 gw_12_24 gw_12_25 rfl rfl hd_Mo_feed ⟨Nat.le_of_ble_eq_true rfl, Nat.le_of_ble_eq_true rfl⟩) (ag_qV (va_recv hK hP rfl he325) hP hD hSh hU hS) rfl rfl hl.1 rfl (lv_room (Nat.le_of_ble_eq_true rfl)) d_La_law_680 ⟨by omega, by omega⟩) hS (fun _ _ h => h) (fun _ h => h) ?_
                  clear hP hD hSh hS he325
                  intro x326 u8 t8 H locs ht _ ex326 hB _ _ hS
                  obtain ⟨L, hP, hD, hSh⟩ := hB
                  rw [ht] at hP
                  clear ht
                  have ex326 := ex326.symm
                  refine lv_istore hx hb d_La_law_683 hl (by decide) rfl (fun ls hl => ?_)
                  have hl : lv_has ls 8 [(6, .int x326), (5, .int (nI 2)), (0, .ref b), (1, .ref (aw_r ad 0)), (2, .ref (aw_m ad 0)), (3, .ref (aw_o ad)), (4, .int (nI (6 * t)))] := hl
                  refine lv_goto (tgt := 837) hx hb d_La_law_685 (by decide) ?_
                  refine lv_iinc (k := 6) (v := nI (6 * t + 6)) hx hb d_La_law_837 hl rfl (aw_inc (6 * t) 6 6 (by decide +kernel)) (by decide) rfl (fun ls hl => ?_)
                  have hl : lv_has ls 8 [(4, .int (nI (6 * t + 6))), (6, .int x326), (5, .int (nI 2)), (0, .ref b), (1, .ref (aw_r ad 0)), (2, .ref (aw_m ad 0)), (3, .ref (aw_o ad))] := hl
                  refine lv_goto (tgt := 23) hx hb d_La_law_840 (by decide) ?_
                  have hl := lv_sub hl (l' := [(0, .ref b), (1, .ref (aw_r ad 0)), (2, .ref (aw_m ad 0)), (3, .ref (aw_o ad)), (4, .int (nI (6 * t + 6)))]) [3, 4, 5, 6, 0] rfl
                  refine W.widen (k := 85 + (t + 1)) (n := 1246 + 6 * (t + 1)) (by omega) (by omega) ?_
                  exact ih (t + 1) zG zO zX zY zA zB zM zI zL zK zN (nI 2) zQ _ _ L ls (by omega) hP hD hSh hR hS (by first | exact hl | simpa [Nat.mul_add] using hl)
                refine lv_if_eq (tgt := 667) hx hb d_La_law_660 (by decide) (fun h9 => ?_) (fun h9 => ?_)
                · refine lv_iconst (v := nI 0) hx hb d_La_law_667 (by decide +kernel) ?_
                  exact hj323 _ (if_pos h9)
                · refine lv_iconst (v := nI 1) hx hb d_La_law_663 (by decide +kernel) ?_
                  refine lv_goto (tgt := 668) hx hb d_La_law_664 (by decide) ?_
                  exact hj323 _ (if_neg h9)
              refine lv_if_eq (tgt := 628) hx hb d_La_law_621 (by decide) (fun h9 => ?_) (fun h9 => ?_)
              · refine lv_iconst (v := nI 0) hx hb d_La_law_628 (by decide +kernel) ?_
                exact hj320 _ (if_pos h9)
              · refine lv_iconst (v := nI 1) hx hb d_La_law_624 (by decide +kernel) ?_
                refine lv_goto (tgt := 629) hx hb d_La_law_625 (by decide) ?_
                exact hj320 _ (if_neg h9)
            · by_cases hm : (zG j).2 ≤ 1
              · by_cases h8 : mm % 8 = 0
                · obtain ⟨q, rfl⟩ : ∃ q, mm = 8 * q := ⟨mm / 8, by omega⟩
                  obtain ⟨kc, hkc, hci, hco⟩ := hR.2.1 j hj (by omega)
                  refine lv_aload_n hx hb d_La_law_608 rfl (lv_at hl 1 rfl) ?_
                  refine lv_aload_n hx hb d_La_law_609 rfl (lv_at hl 0 rfl) ?_
                  refine lv_iload hx hb d_La_law_610 (lv_at hl 4 rfl) ?_
                  refine lv_iconst (v := nI 1) hx hb d_La_law_612 (by decide +kernel) ?_
                  refine lv_iadd hx hb d_La_law_613 ?_
                  refine aw_ti (nI_add (6 * t) 1) ?_
                  refine va_sld hx hb hX hbl hbA hS (i := (nI ((6 * t) + 1))) (vp_in_nI (by omega) (by omega)) d_La_law_614 ?_
                  refine aw_ti (y := nI j) (by rw [nI_clamp (by omega)]; exact hc0.symm) ?_
                  refine lv_aload_n hx hb d_La_law_615 rfl (lv_at hl 0 rfl) ?_
                  refine lv_iload hx hb d_La_law_616 (lv_at hl 4 rfl) ?_
                  refine lv_iconst (v := nI 2) hx hb d_La_law_618 (by decide +kernel) ?_
                  refine lv_iadd hx hb d_La_law_619 ?_
                  refine aw_ti (nI_add (6 * t) 2) ?_
                  refine va_sld hx hb hX hbl hbA hS (i := (nI ((6 * t) + 2))) (vp_in_nI (by omega) (by omega)) d_La_law_620 ?_
                  refine aw_ti (y := s2) (by rw [nI_clamp (by omega)]; exact hs2.symm) ?_
                  have hj327 : ∀ x328 : Int32, (if s2 = 0 then nI 0 else nI 1) = x328 → W p l e room_1 s m #[Value.ref b] below meth c H locs (85 + t) (1246 + 6 * t) (lw_Z below #[Value.ref b] s) (F0 m 629 ls [.int x328, .int (nI j), .ref (aw_r ad 0)]) := by
                    intro x328 ebx328
                    refine lv_aload_n hx hb d_La_law_629 rfl (lv_at hl 0 rfl) ?_
                    refine lv_iload hx hb d_La_law_630 (lv_at hl 4 rfl) ?_
                    refine lv_iconst (v := nI 3) hx hb d_La_law_632 (by decide +kernel) ?_
                    refine lv_iadd hx hb d_La_law_633 ?_
                    refine aw_ti (nI_add (6 * t) 3) ?_
                    refine va_sld hx hb hX hbl hbA hS (i := (nI ((6 * t) + 3))) (vp_in_nI (by omega) (by omega)) d_La_law_634 ?_
                    refine aw_ti (y := nI k) (by rw [nI_clamp (by omega)]; exact hfr.symm) ?_
                    refine lv_aload_n hx hb d_La_law_635 rfl (lv_at hl 0 rfl) ?_
                    refine lv_iload hx hb d_La_law_636 (lv_at hl 4 rfl) ?_
                    refine lv_iconst (v := nI 4) hx hb d_La_law_638 (by decide +kernel) ?_
                    refine lv_iadd hx hb d_La_law_639 ?_
                    refine aw_ti (nI_add (6 * t) 4) ?_
                    refine va_sld hx hb hX hbl hbA hS (i := (nI ((6 * t) + 4))) (vp_in_nI (by omega) (by omega)) d_La_law_640 ?_
                    refine aw_ti (y := nI (8 * q)) (by rw [nI_clamp (by omega)]; exact hm0.symm) ?_
                    refine lv_aload_n hx hb d_La_law_641 rfl (lv_at hl 3 rfl) ?_
                    refine va_calli (vx_runSW (As := [.ref (aw_r ad 0), .int (nI j), .int x328, .int (nI k), .int (nI (8 * q)), .ref (aw_o ad)]) (rest := []) ⟨hx, hb, hml, hown, hG⟩ (k_La_feed18V l hst D g ad N0 zG zO zX zY zA zB zM zI zL zK zN zF zQ j x328 k q hj (by omega) (by omega) (by omega) (by omega)) (aw_wW 6 hG gw_7_42 gw_7_40 gw_0_0 gw_7_41 rfl rfl hd_La_feed ⟨Nat.le_of_ble_eq_true rfl, Nat.le_of_ble_eq_true rfl⟩) (ag_qS hP hD hSh hU hS) rfl rfl hl.1 rfl (lv_room (Nat.le_of_ble_eq_true rfl)) d_La_law_642 ⟨by omega, by omega⟩) hS (fun _ _ h => h) (fun _ h => h) ?_
                    clear hP hD hSh hS
                    intro x329 u8 t8 H locs ht _ ex329 hB _ _ hS
                    obtain ⟨L, hP, hD, hSh⟩ := hB
                    rw [ht] at hP
                    clear ht
                    subst ex329
                    obtain ⟨zX330, ezX330⟩ : ∃ z : Nat → Nat → Int64, v_La_feed18V_zX zG zO zX zY zA zB j x328 k q = z := ⟨_, rfl⟩
                    rw [ezX330] at hSh
                    obtain ⟨zY331, ezY331⟩ : ∃ z : Nat → Nat → Int32, v_La_feed18V_zY zG zO zX zY zA zB j x328 k q = z := ⟨_, rfl⟩
                    rw [ezY331] at hSh
                    obtain ⟨zB332, ezB332⟩ : ∃ z : Nat → Int32, v_La_feed18V_zB zG zO zX zY zA zB j x328 k q = z := ⟨_, rfl⟩
                    rw [ezB332] at hSh
                    obtain ⟨zQ333, ezQ333⟩ : ∃ z : Int64, v_La_feed18V_zQ zG zO zX zY zA zB j x328 k q = z := ⟨_, rfl⟩
                    rw [ezQ333] at hSh
                    refine lv_istore hx hb d_La_law_645 hl (by decide) rfl (fun ls hl => ?_)
                    have hl : lv_has ls 8 [(5, .int (nI 0)), (0, .ref b), (1, .ref (aw_r ad 0)), (2, .ref (aw_m ad 0)), (3, .ref (aw_o ad)), (4, .int (nI (6 * t)))] := hl
                    refine lv_aload_n hx hb d_La_law_647 rfl (lv_at hl 3 rfl) ?_
                    refine lv_aload_n hx hb d_La_law_648 rfl (lv_at hl 1 rfl) ?_
                    refine lv_iload hx hb d_La_law_649 (lv_at hl 5 rfl) ?_
                    refine lv_iconst (v := nI 1) hx hb d_La_law_651 (by decide +kernel) ?_
                    refine lv_iadd hx hb d_La_law_652 ?_
                    refine aw_ti (nI_add (6 * t) 1) ?_
                    refine va_sld hx hb hX hbl hbA hS (i := (nI ((6 * t) + 1))) (vp_in_nI (by omega) (by omega)) d_La_law_653 ?_
                    refine aw_ti (y := nI j) (by rw [nI_clamp (by omega)]; exact hc0.symm) ?_
                    refine lv_aload_n hx hb d_La_law_654 rfl (lv_at hl 1 rfl) ?_
                    refine lv_iload hx hb d_La_law_655 (lv_at hl 5 rfl) ?_
                    refine lv_iconst (v := nI 2) hx hb d_La_law_657 (by decide +kernel) ?_
                    refine lv_iadd hx hb d_La_law_658 ?_
                    refine aw_ti (nI_add (6 * t) 2) ?_
                    refine va_sld hx hb hX hbl hbA hS (i := (nI ((6 * t) + 2))) (vp_in_nI (by omega) (by omega)) d_La_law_659 ?_
                    refine aw_ti (y := s2) (by rw [nI_clamp (by omega)]; exact hs2.symm) ?_
                    have hj334 : ∀ x335 : Int32, (if s2 = 0 then nI 0 else nI 1) = x335 → W p l e room_1 s m #[Value.ref b] below meth c H locs ((85 + t) + 1) ((1246 + 6 * t) + 6) (lw_Z below #[Value.ref b] s) (F0 m 668 ls [.int x335, .int (nI j), .ref (aw_m ad 0)]) := by
                      intro x335 ebx335
                      refine lv_aload_n hx hb d_La_law_668 rfl (lv_at hl 1 rfl) ?_
                      refine lv_iload hx hb d_La_law_669 (lv_at hl 5 rfl) ?_
                      refine lv_iconst (v := nI 3) hx hb d_La_law_671 (by decide +kernel) ?_
                      refine lv_iadd hx hb d_La_law_672 ?_
                      refine aw_ti (nI_add (6 * t) 3) ?_
                      refine va_sld hx hb hX hbl hbA hS (i := (nI ((6 * t) + 3))) (vp_in_nI (by omega) (by omega)) d_La_law_673 ?_
                      refine aw_ti (y := nI k) (by rw [nI_clamp (by omega)]; exact hfr.symm) ?_
                      refine lv_aload_n hx hb d_La_law_674 rfl (lv_at hl 1 rfl) ?_
                      refine lv_iload hx hb d_La_law_675 (lv_at hl 5 rfl) ?_
                      refine lv_iconst (v := nI 4) hx hb d_La_law_677 (by decide +kernel) ?_
                      refine lv_iadd hx hb d_La_law_678 ?_
                      refine aw_ti (nI_add (6 * t) 4) ?_
                      refine va_sld hx hb hX hbl hbA hS (i := (nI ((6 * t) + 4))) (vp_in_nI (by omega) (by omega)) d_La_law_679 ?_
                      refine aw_ti (y := nI (8 * q)) (by rw [nI_clamp (by omega)]; exact hm0.symm) ?_
                      obtain ⟨_, he336⟩ := zr_M0 hSh
                      refine va_calli (va_runV (As := [.int (nI j), .int x335, .int (nI k), .int (nI (8 * q))]) (rest := []) ⟨hx, hb, hml, hown, hG⟩ (k_Mo_feed8V l D g ad N0 zG zO zX330 zY331 zA zB332 zM zI zL zK zN zF zQ333 j kc x335 k (8 * q) hj (by omega) (by omega) (by omega) (by omega) hkc hci) (aw_wV 4 hG gw_12_26 gw_12_23 gw_0_10 gw_12_24 gw_12_25 rfl rfl hd_Mo_feed ⟨Nat.le_of_ble_eq_true rfl, Nat.le_of_ble_eq_true rfl⟩) (ag_qV (va_recv hK hP rfl he336) hP hD hSh hU hS) rfl rfl hl.1 rfl (lv_room (Nat.le_of_ble_eq_true rfl)) d_La_law_680 ⟨by omega, by omega⟩) hS (fun _ _ h => h) (fun _ h => h) ?_
                      clear hP hD hSh hS he336
                      intro x337 u8 t8 H locs ht _ ex337 hB _ _ hS
                      obtain ⟨L, hP, hD, hSh⟩ := hB
                      rw [ht] at hP
                      clear ht
                      obtain ⟨zI338, ezI338⟩ : ∃ z : Nat → Nat → Int32, v_Mo_feed8V_zI zM zI zL j kc x335 k (8 * q) = z := ⟨_, rfl⟩
                      rw [ezI338] at hSh
                      obtain ⟨zL339, ezL339⟩ : ∃ z : Nat → Nat → Int64, v_Mo_feed8V_zL zM zI zL j kc x335 k (8 * q) = z := ⟨_, rfl⟩
                      rw [ezL339] at hSh
                      have ex337 := ex337.symm
                      refine lv_istore hx hb d_La_law_683 hl (by decide) rfl (fun ls hl => ?_)
                      have hl : lv_has ls 8 [(6, .int x337), (5, .int (nI 0)), (0, .ref b), (1, .ref (aw_r ad 0)), (2, .ref (aw_m ad 0)), (3, .ref (aw_o ad)), (4, .int (nI (6 * t)))] := hl
                      refine lv_goto (tgt := 837) hx hb d_La_law_685 (by decide) ?_
                      refine lv_iinc (k := 6) (v := nI (6 * t + 6)) hx hb d_La_law_837 hl rfl (aw_inc (6 * t) 6 6 (by decide +kernel)) (by decide) rfl (fun ls hl => ?_)
                      have hl : lv_has ls 8 [(4, .int (nI (6 * t + 6))), (6, .int x337), (5, .int (nI 0)), (0, .ref b), (1, .ref (aw_r ad 0)), (2, .ref (aw_m ad 0)), (3, .ref (aw_o ad))] := hl
                      refine lv_goto (tgt := 23) hx hb d_La_law_840 (by decide) ?_
                      have hl := lv_sub hl (l' := [(0, .ref b), (1, .ref (aw_r ad 0)), (2, .ref (aw_m ad 0)), (3, .ref (aw_o ad)), (4, .int (nI (6 * t + 6)))]) [3, 4, 5, 6, 0] rfl
                      refine W.widen (k := 85 + (t + 1)) (n := 1246 + 6 * (t + 1)) (by omega) (by omega) ?_
                      have hR : az_R zG zO zX330 zY331 zA zB332 zM zI338 zL339 := by
                        subst ex337 ezL339 ezI338 ebx335 ezQ333 ezB332 ezY331 ezX330 ebx328
                        exact r_feed18_8 hR hj hs hm h0 hk hkc hci hco
                      exact ih (t + 1) zG zO zX330 zY331 zA zB332 zM zI338 zL339 (nI kc) (az_wn kc) (nI 0) zQ333 _ _ L ls (by omega) hP hD hSh hR hS (by first | exact hl | simpa [Nat.mul_add] using hl)
                    refine lv_if_eq (tgt := 667) hx hb d_La_law_660 (by decide) (fun h9 => ?_) (fun h9 => ?_)
                    · refine lv_iconst (v := nI 0) hx hb d_La_law_667 (by decide +kernel) ?_
                      exact hj334 _ (if_pos h9)
                    · refine lv_iconst (v := nI 1) hx hb d_La_law_663 (by decide +kernel) ?_
                      refine lv_goto (tgt := 668) hx hb d_La_law_664 (by decide) ?_
                      exact hj334 _ (if_neg h9)
                  refine lv_if_eq (tgt := 628) hx hb d_La_law_621 (by decide) (fun h9 => ?_) (fun h9 => ?_)
                  · refine lv_iconst (v := nI 0) hx hb d_La_law_628 (by decide +kernel) ?_
                    exact hj327 _ (if_pos h9)
                  · refine lv_iconst (v := nI 1) hx hb d_La_law_624 (by decide +kernel) ?_
                    refine lv_goto (tgt := 629) hx hb d_La_law_625 (by decide) ?_
                    exact hj327 _ (if_neg h9)
                · refine lv_aload_n hx hb d_La_law_608 rfl (lv_at hl 1 rfl) ?_
                  refine lv_aload_n hx hb d_La_law_609 rfl (lv_at hl 0 rfl) ?_
                  refine lv_iload hx hb d_La_law_610 (lv_at hl 4 rfl) ?_
                  refine lv_iconst (v := nI 1) hx hb d_La_law_612 (by decide +kernel) ?_
                  refine lv_iadd hx hb d_La_law_613 ?_
                  refine aw_ti (nI_add (6 * t) 1) ?_
                  refine va_sld hx hb hX hbl hbA hS (i := (nI ((6 * t) + 1))) (vp_in_nI (by omega) (by omega)) d_La_law_614 ?_
                  refine aw_ti (y := nI j) (by rw [nI_clamp (by omega)]; exact hc0.symm) ?_
                  refine lv_aload_n hx hb d_La_law_615 rfl (lv_at hl 0 rfl) ?_
                  refine lv_iload hx hb d_La_law_616 (lv_at hl 4 rfl) ?_
                  refine lv_iconst (v := nI 2) hx hb d_La_law_618 (by decide +kernel) ?_
                  refine lv_iadd hx hb d_La_law_619 ?_
                  refine aw_ti (nI_add (6 * t) 2) ?_
                  refine va_sld hx hb hX hbl hbA hS (i := (nI ((6 * t) + 2))) (vp_in_nI (by omega) (by omega)) d_La_law_620 ?_
                  refine aw_ti (y := s2) (by rw [nI_clamp (by omega)]; exact hs2.symm) ?_
                  have hj340 : ∀ x341 : Int32, (if s2 = 0 then nI 0 else nI 1) = x341 → W p l e room_1 s m #[Value.ref b] below meth c H locs (85 + t) (1246 + 6 * t) (lw_Z below #[Value.ref b] s) (F0 m 629 ls [.int x341, .int (nI j), .ref (aw_r ad 0)]) := by
                    intro x341 ebx341
                    refine lv_aload_n hx hb d_La_law_629 rfl (lv_at hl 0 rfl) ?_
                    refine lv_iload hx hb d_La_law_630 (lv_at hl 4 rfl) ?_
                    refine lv_iconst (v := nI 3) hx hb d_La_law_632 (by decide +kernel) ?_
                    refine lv_iadd hx hb d_La_law_633 ?_
                    refine aw_ti (nI_add (6 * t) 3) ?_
                    refine va_sld hx hb hX hbl hbA hS (i := (nI ((6 * t) + 3))) (vp_in_nI (by omega) (by omega)) d_La_law_634 ?_
                    refine aw_ti (y := nI k) (by rw [nI_clamp (by omega)]; exact hfr.symm) ?_
                    refine lv_aload_n hx hb d_La_law_635 rfl (lv_at hl 0 rfl) ?_
                    refine lv_iload hx hb d_La_law_636 (lv_at hl 4 rfl) ?_
                    refine lv_iconst (v := nI 4) hx hb d_La_law_638 (by decide +kernel) ?_
                    refine lv_iadd hx hb d_La_law_639 ?_
                    refine aw_ti (nI_add (6 * t) 4) ?_
                    refine va_sld hx hb hX hbl hbA hS (i := (nI ((6 * t) + 4))) (vp_in_nI (by omega) (by omega)) d_La_law_640 ?_
                    refine aw_ti (y := nI mm) (by rw [nI_clamp (by omega)]; exact hm0.symm) ?_
                    refine lv_aload_n hx hb d_La_law_641 rfl (lv_at hl 3 rfl) ?_
                    refine va_calli (vx_runSW (As := [.ref (aw_r ad 0), .int (nI j), .int x341, .int (nI k), .int (nI mm), .ref (aw_o ad)]) (rest := []) ⟨hx, hb, hml, hown, hG⟩ (k_La_feedXaV l hst D g ad N0 zG zO zX zY zA zB zM zI zL zK zN zF zQ j x341 k mm hj (by omega) (by omega) (by omega) (by omega) (by omega)) (aw_wW 6 hG gw_7_42 gw_7_40 gw_0_0 gw_7_41 rfl rfl hd_La_feed ⟨Nat.le_of_ble_eq_true rfl, Nat.le_of_ble_eq_true rfl⟩) (ag_qS hP hD hSh hU hS) rfl rfl hl.1 rfl (lv_room (Nat.le_of_ble_eq_true rfl)) d_La_law_642 ⟨by omega, by omega⟩) hS (fun _ _ h => h) (fun _ h => h) ?_
                    clear hP hD hSh hS
                    intro x342 u8 t8 H locs ht _ ex342 hB _ _ hS
                    obtain ⟨L, hP, hD, hSh⟩ := hB
                    rw [ht] at hP
                    clear ht
                    subst ex342
                    refine lv_istore hx hb d_La_law_645 hl (by decide) rfl (fun ls hl => ?_)
                    have hl : lv_has ls 8 [(5, .int (nI 3)), (0, .ref b), (1, .ref (aw_r ad 0)), (2, .ref (aw_m ad 0)), (3, .ref (aw_o ad)), (4, .int (nI (6 * t)))] := hl
                    refine lv_aload_n hx hb d_La_law_647 rfl (lv_at hl 3 rfl) ?_
                    refine lv_aload_n hx hb d_La_law_648 rfl (lv_at hl 1 rfl) ?_
                    refine lv_iload hx hb d_La_law_649 (lv_at hl 5 rfl) ?_
                    refine lv_iconst (v := nI 1) hx hb d_La_law_651 (by decide +kernel) ?_
                    refine lv_iadd hx hb d_La_law_652 ?_
                    refine aw_ti (nI_add (6 * t) 1) ?_
                    refine va_sld hx hb hX hbl hbA hS (i := (nI ((6 * t) + 1))) (vp_in_nI (by omega) (by omega)) d_La_law_653 ?_
                    refine aw_ti (y := nI j) (by rw [nI_clamp (by omega)]; exact hc0.symm) ?_
                    refine lv_aload_n hx hb d_La_law_654 rfl (lv_at hl 1 rfl) ?_
                    refine lv_iload hx hb d_La_law_655 (lv_at hl 5 rfl) ?_
                    refine lv_iconst (v := nI 2) hx hb d_La_law_657 (by decide +kernel) ?_
                    refine lv_iadd hx hb d_La_law_658 ?_
                    refine aw_ti (nI_add (6 * t) 2) ?_
                    refine va_sld hx hb hX hbl hbA hS (i := (nI ((6 * t) + 2))) (vp_in_nI (by omega) (by omega)) d_La_law_659 ?_
                    refine aw_ti (y := s2) (by rw [nI_clamp (by omega)]; exact hs2.symm) ?_
                    have hj343 : ∀ x344 : Int32, (if s2 = 0 then nI 0 else nI 1) = x344 → W p l e room_1 s m #[Value.ref b] below meth c H locs ((85 + t) + 1) ((1246 + 6 * t) + 6) (lw_Z below #[Value.ref b] s) (F0 m 668 ls [.int x344, .int (nI j), .ref (aw_m ad 0)]) := by
                      intro x344 ebx344
                      refine lv_aload_n hx hb d_La_law_668 rfl (lv_at hl 1 rfl) ?_
                      refine lv_iload hx hb d_La_law_669 (lv_at hl 5 rfl) ?_
                      refine lv_iconst (v := nI 3) hx hb d_La_law_671 (by decide +kernel) ?_
                      refine lv_iadd hx hb d_La_law_672 ?_
                      refine aw_ti (nI_add (6 * t) 3) ?_
                      refine va_sld hx hb hX hbl hbA hS (i := (nI ((6 * t) + 3))) (vp_in_nI (by omega) (by omega)) d_La_law_673 ?_
                      refine aw_ti (y := nI k) (by rw [nI_clamp (by omega)]; exact hfr.symm) ?_
                      refine lv_aload_n hx hb d_La_law_674 rfl (lv_at hl 1 rfl) ?_
                      refine lv_iload hx hb d_La_law_675 (lv_at hl 5 rfl) ?_
                      refine lv_iconst (v := nI 4) hx hb d_La_law_677 (by decide +kernel) ?_
                      refine lv_iadd hx hb d_La_law_678 ?_
                      refine aw_ti (nI_add (6 * t) 4) ?_
                      refine va_sld hx hb hX hbl hbA hS (i := (nI ((6 * t) + 4))) (vp_in_nI (by omega) (by omega)) d_La_law_679 ?_
                      refine aw_ti (y := nI mm) (by rw [nI_clamp (by omega)]; exact hm0.symm) ?_
                      obtain ⟨_, he345⟩ := zr_M0 hSh
                      refine va_calli (va_runV (As := [.int (nI j), .int x344, .int (nI k), .int (nI mm)]) (rest := []) ⟨hx, hb, hml, hown, hG⟩ (k_Mo_feedXaV l D g ad N0 zG zO zX zY zA zB zM zI zL zK zN zF zQ j x344 k mm hj (by omega) (by omega) (by omega) (by omega)) (aw_wV 4 hG gw_12_26 gw_12_23 gw_0_10 gw_12_24 gw_12_25 rfl rfl hd_Mo_feed ⟨Nat.le_of_ble_eq_true rfl, Nat.le_of_ble_eq_true rfl⟩) (ag_qV (va_recv hK hP rfl he345) hP hD hSh hU hS) rfl rfl hl.1 rfl (lv_room (Nat.le_of_ble_eq_true rfl)) d_La_law_680 ⟨by omega, by omega⟩) hS (fun _ _ h => h) (fun _ h => h) ?_
                      clear hP hD hSh hS he345
                      intro x346 u8 t8 H locs ht _ ex346 hB _ _ hS
                      obtain ⟨L, hP, hD, hSh⟩ := hB
                      rw [ht] at hP
                      clear ht
                      have ex346 := ex346.symm
                      refine lv_istore hx hb d_La_law_683 hl (by decide) rfl (fun ls hl => ?_)
                      have hl : lv_has ls 8 [(6, .int x346), (5, .int (nI 3)), (0, .ref b), (1, .ref (aw_r ad 0)), (2, .ref (aw_m ad 0)), (3, .ref (aw_o ad)), (4, .int (nI (6 * t)))] := hl
                      refine lv_goto (tgt := 837) hx hb d_La_law_685 (by decide) ?_
                      refine lv_iinc (k := 6) (v := nI (6 * t + 6)) hx hb d_La_law_837 hl rfl (aw_inc (6 * t) 6 6 (by decide +kernel)) (by decide) rfl (fun ls hl => ?_)
                      have hl : lv_has ls 8 [(4, .int (nI (6 * t + 6))), (6, .int x346), (5, .int (nI 3)), (0, .ref b), (1, .ref (aw_r ad 0)), (2, .ref (aw_m ad 0)), (3, .ref (aw_o ad))] := hl
                      refine lv_goto (tgt := 23) hx hb d_La_law_840 (by decide) ?_
                      have hl := lv_sub hl (l' := [(0, .ref b), (1, .ref (aw_r ad 0)), (2, .ref (aw_m ad 0)), (3, .ref (aw_o ad)), (4, .int (nI (6 * t + 6)))]) [3, 4, 5, 6, 0] rfl
                      refine W.widen (k := 85 + (t + 1)) (n := 1246 + 6 * (t + 1)) (by omega) (by omega) ?_
                      exact ih (t + 1) zG zO zX zY zA zB zM zI zL zK zN (nI 3) zQ _ _ L ls (by omega) hP hD hSh hR hS (by first | exact hl | simpa [Nat.mul_add] using hl)
                    refine lv_if_eq (tgt := 667) hx hb d_La_law_660 (by decide) (fun h9 => ?_) (fun h9 => ?_)
                    · refine lv_iconst (v := nI 0) hx hb d_La_law_667 (by decide +kernel) ?_
                      exact hj343 _ (if_pos h9)
                    · refine lv_iconst (v := nI 1) hx hb d_La_law_663 (by decide +kernel) ?_
                      refine lv_goto (tgt := 668) hx hb d_La_law_664 (by decide) ?_
                      exact hj343 _ (if_neg h9)
                  refine lv_if_eq (tgt := 628) hx hb d_La_law_621 (by decide) (fun h9 => ?_) (fun h9 => ?_)
                  · refine lv_iconst (v := nI 0) hx hb d_La_law_628 (by decide +kernel) ?_
                    exact hj340 _ (if_pos h9)
                  · refine lv_iconst (v := nI 1) hx hb d_La_law_624 (by decide +kernel) ?_
                    refine lv_goto (tgt := 629) hx hb d_La_law_625 (by decide) ?_
                    exact hj340 _ (if_neg h9)
              · obtain ⟨kc, hkc, hci, hco⟩ := hR.2.1 j hj (by omega)
                refine lv_aload_n hx hb d_La_law_608 rfl (lv_at hl 1 rfl) ?_
                refine lv_aload_n hx hb d_La_law_609 rfl (lv_at hl 0 rfl) ?_
                refine lv_iload hx hb d_La_law_610 (lv_at hl 4 rfl) ?_
                refine lv_iconst (v := nI 1) hx hb d_La_law_612 (by decide +kernel) ?_
                refine lv_iadd hx hb d_La_law_613 ?_
                refine aw_ti (nI_add (6 * t) 1) ?_
                refine va_sld hx hb hX hbl hbA hS (i := (nI ((6 * t) + 1))) (vp_in_nI (by omega) (by omega)) d_La_law_614 ?_
                refine aw_ti (y := nI j) (by rw [nI_clamp (by omega)]; exact hc0.symm) ?_
                refine lv_aload_n hx hb d_La_law_615 rfl (lv_at hl 0 rfl) ?_
                refine lv_iload hx hb d_La_law_616 (lv_at hl 4 rfl) ?_
                refine lv_iconst (v := nI 2) hx hb d_La_law_618 (by decide +kernel) ?_
                refine lv_iadd hx hb d_La_law_619 ?_
                refine aw_ti (nI_add (6 * t) 2) ?_
                refine va_sld hx hb hX hbl hbA hS (i := (nI ((6 * t) + 2))) (vp_in_nI (by omega) (by omega)) d_La_law_620 ?_
                refine aw_ti (y := s2) (by rw [nI_clamp (by omega)]; exact hs2.symm) ?_
                have hj347 : ∀ x348 : Int32, (if s2 = 0 then nI 0 else nI 1) = x348 → W p l e room_1 s m #[Value.ref b] below meth c H locs (85 + t) (1246 + 6 * t) (lw_Z below #[Value.ref b] s) (F0 m 629 ls [.int x348, .int (nI j), .ref (aw_r ad 0)]) := by
                  intro x348 ebx348
                  refine lv_aload_n hx hb d_La_law_629 rfl (lv_at hl 0 rfl) ?_
                  refine lv_iload hx hb d_La_law_630 (lv_at hl 4 rfl) ?_
                  refine lv_iconst (v := nI 3) hx hb d_La_law_632 (by decide +kernel) ?_
                  refine lv_iadd hx hb d_La_law_633 ?_
                  refine aw_ti (nI_add (6 * t) 3) ?_
                  refine va_sld hx hb hX hbl hbA hS (i := (nI ((6 * t) + 3))) (vp_in_nI (by omega) (by omega)) d_La_law_634 ?_
                  refine aw_ti (y := nI k) (by rw [nI_clamp (by omega)]; exact hfr.symm) ?_
                  refine lv_aload_n hx hb d_La_law_635 rfl (lv_at hl 0 rfl) ?_
                  refine lv_iload hx hb d_La_law_636 (lv_at hl 4 rfl) ?_
                  refine lv_iconst (v := nI 4) hx hb d_La_law_638 (by decide +kernel) ?_
                  refine lv_iadd hx hb d_La_law_639 ?_
                  refine aw_ti (nI_add (6 * t) 4) ?_
                  refine va_sld hx hb hX hbl hbA hS (i := (nI ((6 * t) + 4))) (vp_in_nI (by omega) (by omega)) d_La_law_640 ?_
                  refine aw_ti (y := nI mm) (by rw [nI_clamp (by omega)]; exact hm0.symm) ?_
                  refine lv_aload_n hx hb d_La_law_641 rfl (lv_at hl 3 rfl) ?_
                  refine va_calli (vx_runSW (As := [.ref (aw_r ad 0), .int (nI j), .int x348, .int (nI k), .int (nI mm), .ref (aw_o ad)]) (rest := []) ⟨hx, hb, hml, hown, hG⟩ (k_La_feed11V l hst D g ad N0 zG zO zX zY zA zB zM zI zL zK zN zF zQ j x348 k mm hj (by omega) (by omega) (by omega) (by omega) (by omega)) (aw_wW 6 hG gw_7_42 gw_7_40 gw_0_0 gw_7_41 rfl rfl hd_La_feed ⟨Nat.le_of_ble_eq_true rfl, Nat.le_of_ble_eq_true rfl⟩) (ag_qS hP hD hSh hU hS) rfl rfl hl.1 rfl (lv_room (Nat.le_of_ble_eq_true rfl)) d_La_law_642 ⟨by omega, by omega⟩) hS (fun _ _ h => h) (fun _ h => h) ?_
                  clear hP hD hSh hS
                  intro x349 u8 t8 H locs ht _ ex349 hB _ _ hS
                  obtain ⟨L, hP, hD, hSh⟩ := hB
                  rw [ht] at hP
                  clear ht
                  subst ex349
                  obtain ⟨zX350, ezX350⟩ : ∃ z : Nat → Nat → Int64, v_La_feed11V_zX zG zO zX zY zA zB j x348 k mm = z := ⟨_, rfl⟩
                  rw [ezX350] at hSh
                  obtain ⟨zY351, ezY351⟩ : ∃ z : Nat → Nat → Int32, v_La_feed11V_zY zG zO zX zY zA zB j x348 k mm = z := ⟨_, rfl⟩
                  rw [ezY351] at hSh
                  obtain ⟨zB352, ezB352⟩ : ∃ z : Nat → Int32, v_La_feed11V_zB zG zO zX zY zA zB j x348 k mm = z := ⟨_, rfl⟩
                  rw [ezB352] at hSh
                  obtain ⟨zQ353, ezQ353⟩ : ∃ z : Int64, v_La_feed11V_zQ zG zO zX zY zA zB j x348 k mm = z := ⟨_, rfl⟩
                  rw [ezQ353] at hSh
                  refine lv_istore hx hb d_La_law_645 hl (by decide) rfl (fun ls hl => ?_)
                  have hl : lv_has ls 8 [(5, .int (nI 0)), (0, .ref b), (1, .ref (aw_r ad 0)), (2, .ref (aw_m ad 0)), (3, .ref (aw_o ad)), (4, .int (nI (6 * t)))] := hl
                  refine lv_aload_n hx hb d_La_law_647 rfl (lv_at hl 3 rfl) ?_
                  refine lv_aload_n hx hb d_La_law_648 rfl (lv_at hl 1 rfl) ?_
                  refine lv_iload hx hb d_La_law_649 (lv_at hl 5 rfl) ?_
                  refine lv_iconst (v := nI 1) hx hb d_La_law_651 (by decide +kernel) ?_
                  refine lv_iadd hx hb d_La_law_652 ?_
                  refine aw_ti (nI_add (6 * t) 1) ?_
                  refine va_sld hx hb hX hbl hbA hS (i := (nI ((6 * t) + 1))) (vp_in_nI (by omega) (by omega)) d_La_law_653 ?_
                  refine aw_ti (y := nI j) (by rw [nI_clamp (by omega)]; exact hc0.symm) ?_
                  refine lv_aload_n hx hb d_La_law_654 rfl (lv_at hl 1 rfl) ?_
                  refine lv_iload hx hb d_La_law_655 (lv_at hl 5 rfl) ?_
                  refine lv_iconst (v := nI 2) hx hb d_La_law_657 (by decide +kernel) ?_
                  refine lv_iadd hx hb d_La_law_658 ?_
                  refine aw_ti (nI_add (6 * t) 2) ?_
                  refine va_sld hx hb hX hbl hbA hS (i := (nI ((6 * t) + 2))) (vp_in_nI (by omega) (by omega)) d_La_law_659 ?_
                  refine aw_ti (y := s2) (by rw [nI_clamp (by omega)]; exact hs2.symm) ?_
                  have hj354 : ∀ x355 : Int32, (if s2 = 0 then nI 0 else nI 1) = x355 → W p l e room_1 s m #[Value.ref b] below meth c H locs ((85 + t) + 1) ((1246 + 6 * t) + 6) (lw_Z below #[Value.ref b] s) (F0 m 668 ls [.int x355, .int (nI j), .ref (aw_m ad 0)]) := by
                    intro x355 ebx355
                    refine lv_aload_n hx hb d_La_law_668 rfl (lv_at hl 1 rfl) ?_
                    refine lv_iload hx hb d_La_law_669 (lv_at hl 5 rfl) ?_
                    refine lv_iconst (v := nI 3) hx hb d_La_law_671 (by decide +kernel) ?_
                    refine lv_iadd hx hb d_La_law_672 ?_
                    refine aw_ti (nI_add (6 * t) 3) ?_
                    refine va_sld hx hb hX hbl hbA hS (i := (nI ((6 * t) + 3))) (vp_in_nI (by omega) (by omega)) d_La_law_673 ?_
                    refine aw_ti (y := nI k) (by rw [nI_clamp (by omega)]; exact hfr.symm) ?_
                    refine lv_aload_n hx hb d_La_law_674 rfl (lv_at hl 1 rfl) ?_
                    refine lv_iload hx hb d_La_law_675 (lv_at hl 5 rfl) ?_
                    refine lv_iconst (v := nI 4) hx hb d_La_law_677 (by decide +kernel) ?_
                    refine lv_iadd hx hb d_La_law_678 ?_
                    refine aw_ti (nI_add (6 * t) 4) ?_
                    refine va_sld hx hb hX hbl hbA hS (i := (nI ((6 * t) + 4))) (vp_in_nI (by omega) (by omega)) d_La_law_679 ?_
                    refine aw_ti (y := nI mm) (by rw [nI_clamp (by omega)]; exact hm0.symm) ?_
                    obtain ⟨_, he356⟩ := zr_M0 hSh
                    refine va_calli (va_runV (As := [.int (nI j), .int x355, .int (nI k), .int (nI mm)]) (rest := []) ⟨hx, hb, hml, hown, hG⟩ (k_Mo_feed1V l D g ad N0 zG zO zX350 zY351 zA zB352 zM zI zL zK zN zF zQ353 j kc x355 k mm hj (by omega) (by omega) (by omega) (by omega) hkc hci) (aw_wV 4 hG gw_12_26 gw_12_23 gw_0_10 gw_12_24 gw_12_25 rfl rfl hd_Mo_feed ⟨Nat.le_of_ble_eq_true rfl, Nat.le_of_ble_eq_true rfl⟩) (ag_qV (va_recv hK hP rfl he356) hP hD hSh hU hS) rfl rfl hl.1 rfl (lv_room (Nat.le_of_ble_eq_true rfl)) d_La_law_680 ⟨by omega, by omega⟩) hS (fun _ _ h => h) (fun _ h => h) ?_
                    clear hP hD hSh hS he356
                    intro x357 u8 t8 H locs ht _ ex357 hB _ _ hS
                    obtain ⟨L, hP, hD, hSh⟩ := hB
                    rw [ht] at hP
                    clear ht
                    obtain ⟨zI358, ezI358⟩ : ∃ z : Nat → Nat → Int32, v_Mo_feed1V_zI zM zI zL j kc x355 k mm = z := ⟨_, rfl⟩
                    rw [ezI358] at hSh
                    obtain ⟨zL359, ezL359⟩ : ∃ z : Nat → Nat → Int64, v_Mo_feed1V_zL zM zI zL j kc x355 k mm = z := ⟨_, rfl⟩
                    rw [ezL359] at hSh
                    have ex357 := ex357.symm
                    refine lv_istore hx hb d_La_law_683 hl (by decide) rfl (fun ls hl => ?_)
                    have hl : lv_has ls 8 [(6, .int x357), (5, .int (nI 0)), (0, .ref b), (1, .ref (aw_r ad 0)), (2, .ref (aw_m ad 0)), (3, .ref (aw_o ad)), (4, .int (nI (6 * t)))] := hl
                    refine lv_goto (tgt := 837) hx hb d_La_law_685 (by decide) ?_
                    refine lv_iinc (k := 6) (v := nI (6 * t + 6)) hx hb d_La_law_837 hl rfl (aw_inc (6 * t) 6 6 (by decide +kernel)) (by decide) rfl (fun ls hl => ?_)
                    have hl : lv_has ls 8 [(4, .int (nI (6 * t + 6))), (6, .int x357), (5, .int (nI 0)), (0, .ref b), (1, .ref (aw_r ad 0)), (2, .ref (aw_m ad 0)), (3, .ref (aw_o ad))] := hl
                    refine lv_goto (tgt := 23) hx hb d_La_law_840 (by decide) ?_
                    have hl := lv_sub hl (l' := [(0, .ref b), (1, .ref (aw_r ad 0)), (2, .ref (aw_m ad 0)), (3, .ref (aw_o ad)), (4, .int (nI (6 * t + 6)))]) [3, 4, 5, 6, 0] rfl
                    refine W.widen (k := 85 + (t + 1)) (n := 1246 + 6 * (t + 1)) (by omega) (by omega) ?_
                    have hR : az_R zG zO zX350 zY351 zA zB352 zM zI358 zL359 := by
                      subst ex357 ezL359 ezI358 ebx355 ezQ353 ezB352 ezY351 ezX350 ebx348
                      exact r_feed11_1 hR hj hs (by omega) (by omega) h0 hk hkc hci hco
                    exact ih (t + 1) zG zO zX350 zY351 zA zB352 zM zI358 zL359 (nI kc) (az_wn kc) (nI 0) zQ353 _ _ L ls (by omega) hP hD hSh hR hS (by first | exact hl | simpa [Nat.mul_add] using hl)
                  refine lv_if_eq (tgt := 667) hx hb d_La_law_660 (by decide) (fun h9 => ?_) (fun h9 => ?_)
                  · refine lv_iconst (v := nI 0) hx hb d_La_law_667 (by decide +kernel) ?_
                    exact hj354 _ (if_pos h9)
                  · refine lv_iconst (v := nI 1) hx hb d_La_law_663 (by decide +kernel) ?_
                    refine lv_goto (tgt := 668) hx hb d_La_law_664 (by decide) ?_
                    exact hj354 _ (if_neg h9)
                refine lv_if_eq (tgt := 628) hx hb d_La_law_621 (by decide) (fun h9 => ?_) (fun h9 => ?_)
                · refine lv_iconst (v := nI 0) hx hb d_La_law_628 (by decide +kernel) ?_
                  exact hj347 _ (if_pos h9)
                · refine lv_iconst (v := nI 1) hx hb d_La_law_624 (by decide +kernel) ?_
                  refine lv_goto (tgt := 629) hx hb d_La_law_625 (by decide) ?_
                  exact hj347 _ (if_neg h9)
          · refine lv_aload_n hx hb d_La_law_608 rfl (lv_at hl 1 rfl) ?_
            refine lv_aload_n hx hb d_La_law_609 rfl (lv_at hl 0 rfl) ?_
            refine lv_iload hx hb d_La_law_610 (lv_at hl 4 rfl) ?_
            refine lv_iconst (v := nI 1) hx hb d_La_law_612 (by decide +kernel) ?_
            refine lv_iadd hx hb d_La_law_613 ?_
            refine aw_ti (nI_add (6 * t) 1) ?_
            refine va_sld hx hb hX hbl hbA hS (i := (nI ((6 * t) + 1))) (vp_in_nI (by omega) (by omega)) d_La_law_614 ?_
            refine aw_ti (y := nI j) (by rw [nI_clamp (by omega)]; exact hc0.symm) ?_
            refine lv_aload_n hx hb d_La_law_615 rfl (lv_at hl 0 rfl) ?_
            refine lv_iload hx hb d_La_law_616 (lv_at hl 4 rfl) ?_
            refine lv_iconst (v := nI 2) hx hb d_La_law_618 (by decide +kernel) ?_
            refine lv_iadd hx hb d_La_law_619 ?_
            refine aw_ti (nI_add (6 * t) 2) ?_
            refine va_sld hx hb hX hbl hbA hS (i := (nI ((6 * t) + 2))) (vp_in_nI (by omega) (by omega)) d_La_law_620 ?_
            refine aw_ti (y := s2) (by rw [nI_clamp (by omega)]; exact hs2.symm) ?_
            have hj360 : ∀ x361 : Int32, (if s2 = 0 then nI 0 else nI 1) = x361 → W p l e room_1 s m #[Value.ref b] below meth c H locs (85 + t) (1246 + 6 * t) (lw_Z below #[Value.ref b] s) (F0 m 629 ls [.int x361, .int (nI j), .ref (aw_r ad 0)]) := by
              intro x361 ebx361
              refine lv_aload_n hx hb d_La_law_629 rfl (lv_at hl 0 rfl) ?_
              refine lv_iload hx hb d_La_law_630 (lv_at hl 4 rfl) ?_
              refine lv_iconst (v := nI 3) hx hb d_La_law_632 (by decide +kernel) ?_
              refine lv_iadd hx hb d_La_law_633 ?_
              refine aw_ti (nI_add (6 * t) 3) ?_
              refine va_sld hx hb hX hbl hbA hS (i := (nI ((6 * t) + 3))) (vp_in_nI (by omega) (by omega)) d_La_law_634 ?_
              refine aw_ti (y := nI k) (by rw [nI_clamp (by omega)]; exact hfr.symm) ?_
              refine lv_aload_n hx hb d_La_law_635 rfl (lv_at hl 0 rfl) ?_
              refine lv_iload hx hb d_La_law_636 (lv_at hl 4 rfl) ?_
              refine lv_iconst (v := nI 4) hx hb d_La_law_638 (by decide +kernel) ?_
              refine lv_iadd hx hb d_La_law_639 ?_
              refine aw_ti (nI_add (6 * t) 4) ?_
              refine va_sld hx hb hX hbl hbA hS (i := (nI ((6 * t) + 4))) (vp_in_nI (by omega) (by omega)) d_La_law_640 ?_
              refine aw_ti (y := nI mm) (by rw [nI_clamp (by omega)]; exact hm0.symm) ?_
              refine lv_aload_n hx hb d_La_law_641 rfl (lv_at hl 3 rfl) ?_
              refine va_calli (vx_runSW (As := [.ref (aw_r ad 0), .int (nI j), .int x361, .int (nI k), .int (nI mm), .ref (aw_o ad)]) (rest := []) ⟨hx, hb, hml, hown, hG⟩ (k_La_feedXs1V l hst D g ad N0 zG zO zX zY zA zB zM zI zL zK zN zF zQ j x361 k mm hj (by omega) (by omega) (by omega)) (aw_wW 6 hG gw_7_42 gw_7_40 gw_0_0 gw_7_41 rfl rfl hd_La_feed ⟨Nat.le_of_ble_eq_true rfl, Nat.le_of_ble_eq_true rfl⟩) (ag_qS hP hD hSh hU hS) rfl rfl hl.1 rfl (lv_room (Nat.le_of_ble_eq_true rfl)) d_La_law_642 ⟨by omega, by omega⟩) hS (fun _ _ h => h) (fun _ h => h) ?_
              clear hP hD hSh hS
              intro x362 u8 t8 H locs ht _ ex362 hB _ _ hS
              obtain ⟨L, hP, hD, hSh⟩ := hB
              rw [ht] at hP
              clear ht
              subst ex362
              refine lv_istore hx hb d_La_law_645 hl (by decide) rfl (fun ls hl => ?_)
              have hl : lv_has ls 8 [(5, .int (nI 2)), (0, .ref b), (1, .ref (aw_r ad 0)), (2, .ref (aw_m ad 0)), (3, .ref (aw_o ad)), (4, .int (nI (6 * t)))] := hl
              refine lv_aload_n hx hb d_La_law_647 rfl (lv_at hl 3 rfl) ?_
              refine lv_aload_n hx hb d_La_law_648 rfl (lv_at hl 1 rfl) ?_
              refine lv_iload hx hb d_La_law_649 (lv_at hl 5 rfl) ?_
              refine lv_iconst (v := nI 1) hx hb d_La_law_651 (by decide +kernel) ?_
              refine lv_iadd hx hb d_La_law_652 ?_
              refine aw_ti (nI_add (6 * t) 1) ?_
              refine va_sld hx hb hX hbl hbA hS (i := (nI ((6 * t) + 1))) (vp_in_nI (by omega) (by omega)) d_La_law_653 ?_
              refine aw_ti (y := nI j) (by rw [nI_clamp (by omega)]; exact hc0.symm) ?_
              refine lv_aload_n hx hb d_La_law_654 rfl (lv_at hl 1 rfl) ?_
              refine lv_iload hx hb d_La_law_655 (lv_at hl 5 rfl) ?_
              refine lv_iconst (v := nI 2) hx hb d_La_law_657 (by decide +kernel) ?_
              refine lv_iadd hx hb d_La_law_658 ?_
              refine aw_ti (nI_add (6 * t) 2) ?_
              refine va_sld hx hb hX hbl hbA hS (i := (nI ((6 * t) + 2))) (vp_in_nI (by omega) (by omega)) d_La_law_659 ?_
              refine aw_ti (y := s2) (by rw [nI_clamp (by omega)]; exact hs2.symm) ?_
              have hj363 : ∀ x364 : Int32, (if s2 = 0 then nI 0 else nI 1) = x364 → W p l e room_1 s m #[Value.ref b] below meth c H locs ((85 + t) + 1) ((1246 + 6 * t) + 6) (lw_Z below #[Value.ref b] s) (F0 m 668 ls [.int x364, .int (nI j), .ref (aw_m ad 0)]) := by
                intro x364 ebx364
                refine lv_aload_n hx hb d_La_law_668 rfl (lv_at hl 1 rfl) ?_
                refine lv_iload hx hb d_La_law_669 (lv_at hl 5 rfl) ?_
                refine lv_iconst (v := nI 3) hx hb d_La_law_671 (by decide +kernel) ?_
                refine lv_iadd hx hb d_La_law_672 ?_
                refine aw_ti (nI_add (6 * t) 3) ?_
                refine va_sld hx hb hX hbl hbA hS (i := (nI ((6 * t) + 3))) (vp_in_nI (by omega) (by omega)) d_La_law_673 ?_
                refine aw_ti (y := nI k) (by rw [nI_clamp (by omega)]; exact hfr.symm) ?_
                refine lv_aload_n hx hb d_La_law_674 rfl (lv_at hl 1 rfl) ?_
                refine lv_iload hx hb d_La_law_675 (lv_at hl 5 rfl) ?_
                refine lv_iconst (v := nI 4) hx hb d_La_law_677 (by decide +kernel) ?_
                refine lv_iadd hx hb d_La_law_678 ?_
                refine aw_ti (nI_add (6 * t) 4) ?_
                refine va_sld hx hb hX hbl hbA hS (i := (nI ((6 * t) + 4))) (vp_in_nI (by omega) (by omega)) d_La_law_679 ?_
                refine aw_ti (y := nI mm) (by rw [nI_clamp (by omega)]; exact hm0.symm) ?_
                obtain ⟨_, he365⟩ := zr_M0 hSh
                refine va_calli (va_runV (As := [.int (nI j), .int x364, .int (nI k), .int (nI mm)]) (rest := []) ⟨hx, hb, hml, hown, hG⟩ (k_Mo_feedXsV l D g ad N0 zG zO zX zY zA zB zM zI zL zK zN zF zQ j x364 k mm hj (by omega) (by omega)) (aw_wV 4 hG gw_12_26 gw_12_23 gw_0_10 gw_12_24 gw_12_25 rfl rfl hd_Mo_feed ⟨Nat.le_of_ble_eq_true rfl, Nat.le_of_ble_eq_true rfl⟩) (ag_qV (va_recv hK hP rfl he365) hP hD hSh hU hS) rfl rfl hl.1 rfl (lv_room (Nat.le_of_ble_eq_true rfl)) d_La_law_680 ⟨by omega, by omega⟩) hS (fun _ _ h => h) (fun _ h => h) ?_
                clear hP hD hSh hS he365
                intro x366 u8 t8 H locs ht _ ex366 hB _ _ hS
                obtain ⟨L, hP, hD, hSh⟩ := hB
                rw [ht] at hP
                clear ht
                have ex366 := ex366.symm
                refine lv_istore hx hb d_La_law_683 hl (by decide) rfl (fun ls hl => ?_)
                have hl : lv_has ls 8 [(6, .int x366), (5, .int (nI 2)), (0, .ref b), (1, .ref (aw_r ad 0)), (2, .ref (aw_m ad 0)), (3, .ref (aw_o ad)), (4, .int (nI (6 * t)))] := hl
                refine lv_goto (tgt := 837) hx hb d_La_law_685 (by decide) ?_
                refine lv_iinc (k := 6) (v := nI (6 * t + 6)) hx hb d_La_law_837 hl rfl (aw_inc (6 * t) 6 6 (by decide +kernel)) (by decide) rfl (fun ls hl => ?_)
                have hl : lv_has ls 8 [(4, .int (nI (6 * t + 6))), (6, .int x366), (5, .int (nI 2)), (0, .ref b), (1, .ref (aw_r ad 0)), (2, .ref (aw_m ad 0)), (3, .ref (aw_o ad))] := hl
                refine lv_goto (tgt := 23) hx hb d_La_law_840 (by decide) ?_
                have hl := lv_sub hl (l' := [(0, .ref b), (1, .ref (aw_r ad 0)), (2, .ref (aw_m ad 0)), (3, .ref (aw_o ad)), (4, .int (nI (6 * t + 6)))]) [3, 4, 5, 6, 0] rfl
                refine W.widen (k := 85 + (t + 1)) (n := 1246 + 6 * (t + 1)) (by omega) (by omega) ?_
                exact ih (t + 1) zG zO zX zY zA zB zM zI zL zK zN (nI 2) zQ _ _ L ls (by omega) hP hD hSh hR hS (by first | exact hl | simpa [Nat.mul_add] using hl)
              refine lv_if_eq (tgt := 667) hx hb d_La_law_660 (by decide) (fun h9 => ?_) (fun h9 => ?_)
              · refine lv_iconst (v := nI 0) hx hb d_La_law_667 (by decide +kernel) ?_
                exact hj363 _ (if_pos h9)
              · refine lv_iconst (v := nI 1) hx hb d_La_law_663 (by decide +kernel) ?_
                refine lv_goto (tgt := 668) hx hb d_La_law_664 (by decide) ?_
                exact hj363 _ (if_neg h9)
            refine lv_if_eq (tgt := 628) hx hb d_La_law_621 (by decide) (fun h9 => ?_) (fun h9 => ?_)
            · refine lv_iconst (v := nI 0) hx hb d_La_law_628 (by decide +kernel) ?_
              exact hj360 _ (if_pos h9)
            · refine lv_iconst (v := nI 1) hx hb d_La_law_624 (by decide +kernel) ?_
              refine lv_goto (tgt := 629) hx hb d_La_law_625 (by decide) ?_
              exact hj360 _ (if_neg h9)
    · refine aw_ti (y := nI 10) (by rw [hs3]) ?_
      refine lv_tableIn (tgt := 688) (off := 648) hx hb d_La_law_40 (by decide +kernel) (by decide +kernel) (by decide +kernel) (by decide) ?_
      obtain ⟨c0, hc0⟩ : ∃ z : Int32, z = xs (6 * t + 1) := ⟨_, rfl⟩
      obtain ⟨s2, hs2⟩ : ∃ z : Int32, z = xs (6 * t + 2) := ⟨_, rfl⟩
      obtain ⟨s3, hs3⟩ : ∃ z : Int32, z = xs (6 * t + 3) := ⟨_, rfl⟩
      rcases aw_rng 4 (by decide) c0 with hc | ⟨j, hj, rfl⟩
      · refine lv_aload_n hx hb d_La_law_688 rfl (lv_at hl 1 rfl) ?_
        refine lv_aload_n hx hb d_La_law_689 rfl (lv_at hl 0 rfl) ?_
        refine lv_iload hx hb d_La_law_690 (lv_at hl 4 rfl) ?_
        refine lv_iconst (v := nI 1) hx hb d_La_law_692 (by decide +kernel) ?_
        refine lv_iadd hx hb d_La_law_693 ?_
        refine aw_ti (nI_add (6 * t) 1) ?_
        refine va_sld hx hb hX hbl hbA hS (i := (nI ((6 * t) + 1))) (vp_in_nI (by omega) (by omega)) d_La_law_694 ?_
        refine aw_ti (y := c0) (by rw [nI_clamp (by omega)]; exact hc0.symm) ?_
        refine lv_aload_n hx hb d_La_law_695 rfl (lv_at hl 0 rfl) ?_
        refine lv_iload hx hb d_La_law_696 (lv_at hl 4 rfl) ?_
        refine lv_iconst (v := nI 2) hx hb d_La_law_698 (by decide +kernel) ?_
        refine lv_iadd hx hb d_La_law_699 ?_
        refine aw_ti (nI_add (6 * t) 2) ?_
        refine va_sld hx hb hX hbl hbA hS (i := (nI ((6 * t) + 2))) (vp_in_nI (by omega) (by omega)) d_La_law_700 ?_
        refine aw_ti (y := s2) (by rw [nI_clamp (by omega)]; exact hs2.symm) ?_
        refine lv_i2l hx hb d_La_law_701 rfl ?_
        refine ag_topl (fun y367 ey367 => ?_)
        refine lv_bipush (v := nI 32) hx hb d_La_law_702 (by decide +kernel) ?_
        refine lv_lshl hx hb d_La_law_704 rfl ?_
        refine ag_topl (fun y368 ey368 => ?_)
        refine lv_aload_n hx hb d_La_law_705 rfl (lv_at hl 0 rfl) ?_
        refine lv_iload hx hb d_La_law_706 (lv_at hl 4 rfl) ?_
        refine lv_iconst (v := nI 3) hx hb d_La_law_708 (by decide +kernel) ?_
        refine lv_iadd hx hb d_La_law_709 ?_
        refine aw_ti (nI_add (6 * t) 3) ?_
        refine va_sld hx hb hX hbl hbA hS (i := (nI ((6 * t) + 3))) (vp_in_nI (by omega) (by omega)) d_La_law_710 ?_
        refine aw_ti (y := s3) (by rw [nI_clamp (by omega)]; exact hs3.symm) ?_
        refine lv_i2l hx hb d_La_law_711 rfl ?_
        refine ag_topl (fun y369 ey369 => ?_)
        refine lv_ldc2 (v := 4294967295) hx hb hown (hG _ gw_13_3) d_La_law_712 ?_
        refine lv_land hx hb d_La_law_715 ?_
        refine ag_topl (fun y370 ey370 => ?_)
        refine lv_lor hx hb d_La_law_716 ?_
        refine ag_topl (fun y371 ey371 => ?_)
        refine va_calli (vx_runSW (As := [.ref (aw_r ad 0), .int c0, .long y371]) (rest := []) ⟨hx, hb, hml, hown, hG⟩ (k_La_seekXcV l hst D g ad N0 zG zO zX zY zA zB zM zI zL zK zN zF zQ c0 y371 hc) (aw_wW 3 hG gw_8_26 gw_8_24 gw_0_0 gw_8_25 rfl rfl hd_La_seek ⟨Nat.le_of_ble_eq_true rfl, Nat.le_of_ble_eq_true rfl⟩) (ag_qS hP hD hSh hU hS) rfl rfl hl.1 rfl (lv_room (Nat.le_of_ble_eq_true rfl)) d_La_law_717 ⟨by omega, by omega⟩) hS (fun _ _ h => h) (fun _ h => h) ?_
        clear hP hD hSh hS
        intro x372 u8 t8 H locs ht _ ex372 hB _ _ hS
        obtain ⟨L, hP, hD, hSh⟩ := hB
        rw [ht] at hP
        clear ht
        subst ex372
        refine lv_istore hx hb d_La_law_720 hl (by decide) rfl (fun ls hl => ?_)
        have hl : lv_has ls 8 [(5, .int (nI 1)), (0, .ref b), (1, .ref (aw_r ad 0)), (2, .ref (aw_m ad 0)), (3, .ref (aw_o ad)), (4, .int (nI (6 * t)))] := hl
        refine lv_aload_n hx hb d_La_law_722 rfl (lv_at hl 3 rfl) ?_
        refine lv_aload_n hx hb d_La_law_723 rfl (lv_at hl 1 rfl) ?_
        refine lv_iload hx hb d_La_law_724 (lv_at hl 5 rfl) ?_
        refine lv_iconst (v := nI 1) hx hb d_La_law_726 (by decide +kernel) ?_
        refine lv_iadd hx hb d_La_law_727 ?_
        refine aw_ti (nI_add (6 * t) 1) ?_
        refine va_sld hx hb hX hbl hbA hS (i := (nI ((6 * t) + 1))) (vp_in_nI (by omega) (by omega)) d_La_law_728 ?_
        refine aw_ti (y := c0) (by rw [nI_clamp (by omega)]; exact hc0.symm) ?_
        refine lv_aload_n hx hb d_La_law_729 rfl (lv_at hl 1 rfl) ?_
        refine lv_iload hx hb d_La_law_730 (lv_at hl 5 rfl) ?_
        refine lv_iconst (v := nI 2) hx hb d_La_law_732 (by decide +kernel) ?_
        refine lv_iadd hx hb d_La_law_733 ?_
        refine aw_ti (nI_add (6 * t) 2) ?_
        refine va_sld hx hb hX hbl hbA hS (i := (nI ((6 * t) + 2))) (vp_in_nI (by omega) (by omega)) d_La_law_734 ?_
        refine aw_ti (y := s2) (by rw [nI_clamp (by omega)]; exact hs2.symm) ?_
        refine lv_i2l hx hb d_La_law_735 rfl ?_
        refine ag_topl (fun y373 ey373 => ?_)
        refine lv_bipush (v := nI 32) hx hb d_La_law_736 (by decide +kernel) ?_
        refine lv_lshl hx hb d_La_law_738 rfl ?_
        refine ag_topl (fun y374 ey374 => ?_)
        refine lv_aload_n hx hb d_La_law_739 rfl (lv_at hl 1 rfl) ?_
        refine lv_iload hx hb d_La_law_740 (lv_at hl 5 rfl) ?_
        refine lv_iconst (v := nI 3) hx hb d_La_law_742 (by decide +kernel) ?_
        refine lv_iadd hx hb d_La_law_743 ?_
        refine aw_ti (nI_add (6 * t) 3) ?_
        refine va_sld hx hb hX hbl hbA hS (i := (nI ((6 * t) + 3))) (vp_in_nI (by omega) (by omega)) d_La_law_744 ?_
        refine aw_ti (y := s3) (by rw [nI_clamp (by omega)]; exact hs3.symm) ?_
        refine lv_i2l hx hb d_La_law_745 rfl ?_
        refine ag_topl (fun y375 ey375 => ?_)
        refine lv_ldc2 (v := 4294967295) hx hb hown (hG _ gw_13_3) d_La_law_746 ?_
        refine lv_land hx hb d_La_law_749 ?_
        refine ag_topl (fun y376 ey376 => ?_)
        refine lv_lor hx hb d_La_law_750 ?_
        refine ag_topl (fun y377 ey377 => ?_)
        obtain ⟨_, he378⟩ := zr_M0 hSh
        refine va_callv (va_runV (As := [.int c0, .long y377]) (rest := []) ⟨hx, hb, hml, hown, hG⟩ (k_Mo_seekXcV l D g ad N0 zG zO zX zY zA zB zM zI zL zK zN zF zQ c0 y377 hc) (aw_wV 2 hG gw_12_45 gw_12_42 gw_0_10 gw_12_43 gw_12_44 rfl rfl hd_Mo_seek ⟨Nat.le_of_ble_eq_true rfl, Nat.le_of_ble_eq_true rfl⟩) (ag_qV (va_recv hK hP rfl he378) hP hD hSh hU hS) rfl rfl hl.1 rfl (lv_room (Nat.le_of_ble_eq_true rfl)) d_La_law_751 ⟨by omega, by omega⟩) hS (fun _ _ h => h) (fun _ h => h) ?_
        clear hP hD hSh hS he378
        intro u8 t8 H locs ht _ _ hB _ _ hS
        obtain ⟨L, hP, hD, hSh⟩ := hB
        rw [ht] at hP
        clear ht
        refine lv_goto (tgt := 837) hx hb d_La_law_754 (by decide) ?_
        refine lv_iinc (k := 5) (v := nI (6 * t + 6)) hx hb d_La_law_837 hl rfl (aw_inc (6 * t) 6 6 (by decide +kernel)) (by decide) rfl (fun ls hl => ?_)
        have hl : lv_has ls 8 [(4, .int (nI (6 * t + 6))), (5, .int (nI 1)), (0, .ref b), (1, .ref (aw_r ad 0)), (2, .ref (aw_m ad 0)), (3, .ref (aw_o ad))] := hl
        refine lv_goto (tgt := 23) hx hb d_La_law_840 (by decide) ?_
        have hl := lv_sub hl (l' := [(0, .ref b), (1, .ref (aw_r ad 0)), (2, .ref (aw_m ad 0)), (3, .ref (aw_o ad)), (4, .int (nI (6 * t + 6)))]) [2, 3, 4, 5, 0] rfl
        refine W.widen (k := 85 + (t + 1)) (n := 1246 + 6 * (t + 1)) (by omega) (by omega) ?_
        exact ih (t + 1) zG zO zX zY zA zB zM zI zL zK zN (nI 1) zQ _ _ L ls (by omega) hP hD hSh hR hS (by first | exact hl | simpa [Nat.mul_add] using hl)
      · have hgj := hSh.2.2.2.2.1 j hj
        have hq1 : (zM j).1 = (zG j).1 := by rw [hR.1 j hj]
        have hq2 : (zM j).2 = (zG j).2 := by rw [hR.1 j hj]
        by_cases hs : (zG j).1 = 3 ∧ (zG j).2 = 4
        · refine lv_aload_n hx hb d_La_law_688 rfl (lv_at hl 1 rfl) ?_
          refine lv_aload_n hx hb d_La_law_689 rfl (lv_at hl 0 rfl) ?_
          refine lv_iload hx hb d_La_law_690 (lv_at hl 4 rfl) ?_
          refine lv_iconst (v := nI 1) hx hb d_La_law_692 (by decide +kernel) ?_
          refine lv_iadd hx hb d_La_law_693 ?_
          refine aw_ti (nI_add (6 * t) 1) ?_
          refine va_sld hx hb hX hbl hbA hS (i := (nI ((6 * t) + 1))) (vp_in_nI (by omega) (by omega)) d_La_law_694 ?_
          refine aw_ti (y := nI j) (by rw [nI_clamp (by omega)]; exact hc0.symm) ?_
          refine lv_aload_n hx hb d_La_law_695 rfl (lv_at hl 0 rfl) ?_
          refine lv_iload hx hb d_La_law_696 (lv_at hl 4 rfl) ?_
          refine lv_iconst (v := nI 2) hx hb d_La_law_698 (by decide +kernel) ?_
          refine lv_iadd hx hb d_La_law_699 ?_
          refine aw_ti (nI_add (6 * t) 2) ?_
          refine va_sld hx hb hX hbl hbA hS (i := (nI ((6 * t) + 2))) (vp_in_nI (by omega) (by omega)) d_La_law_700 ?_
          refine aw_ti (y := s2) (by rw [nI_clamp (by omega)]; exact hs2.symm) ?_
          refine lv_i2l hx hb d_La_law_701 rfl ?_
          refine ag_topl (fun y379 ey379 => ?_)
          refine lv_bipush (v := nI 32) hx hb d_La_law_702 (by decide +kernel) ?_
          refine lv_lshl hx hb d_La_law_704 rfl ?_
          refine ag_topl (fun y380 ey380 => ?_)
          refine lv_aload_n hx hb d_La_law_705 rfl (lv_at hl 0 rfl) ?_
          refine lv_iload hx hb d_La_law_706 (lv_at hl 4 rfl) ?_
          refine lv_iconst (v := nI 3) hx hb d_La_law_708 (by decide +kernel) ?_
          refine lv_iadd hx hb d_La_law_709 ?_
          refine aw_ti (nI_add (6 * t) 3) ?_
          refine va_sld hx hb hX hbl hbA hS (i := (nI ((6 * t) + 3))) (vp_in_nI (by omega) (by omega)) d_La_law_710 ?_
          refine aw_ti (y := s3) (by rw [nI_clamp (by omega)]; exact hs3.symm) ?_
          refine lv_i2l hx hb d_La_law_711 rfl ?_
          refine ag_topl (fun y381 ey381 => ?_)
          refine lv_ldc2 (v := 4294967295) hx hb hown (hG _ gw_13_3) d_La_law_712 ?_
          refine lv_land hx hb d_La_law_715 ?_
          refine ag_topl (fun y382 ey382 => ?_)
          refine lv_lor hx hb d_La_law_716 ?_
          refine ag_topl (fun y383 ey383 => ?_)
          refine va_calli (vx_runSW (As := [.ref (aw_r ad 0), .int (nI j), .long y383]) (rest := []) ⟨hx, hb, hml, hown, hG⟩ (k_La_seek1V l hst D g ad N0 zG zO zX zY zA zB zM zI zL zK zN zF zQ j y383 hj (by omega)) (aw_wW 3 hG gw_8_26 gw_8_24 gw_0_0 gw_8_25 rfl rfl hd_La_seek ⟨Nat.le_of_ble_eq_true rfl, Nat.le_of_ble_eq_true rfl⟩) (ag_qS hP hD hSh hU hS) rfl rfl hl.1 rfl (lv_room (Nat.le_of_ble_eq_true rfl)) d_La_law_717 ⟨by omega, by omega⟩) hS (fun _ _ h => h) (fun _ h => h) ?_
          clear hP hD hSh hS
          intro x384 u8 t8 H locs ht _ ex384 hB _ _ hS
          obtain ⟨L, hP, hD, hSh⟩ := hB
          rw [ht] at hP
          clear ht
          subst ex384
          obtain ⟨zX385, ezX385⟩ : ∃ z : Nat → Nat → Int64, v_La_seek1V_zX zX zY j y383 = z := ⟨_, rfl⟩
          rw [ezX385] at hSh
          obtain ⟨zY386, ezY386⟩ : ∃ z : Nat → Nat → Int32, v_La_seek1V_zY zX zY j y383 = z := ⟨_, rfl⟩
          rw [ezY386] at hSh
          refine lv_istore hx hb d_La_law_720 hl (by decide) rfl (fun ls hl => ?_)
          have hl : lv_has ls 8 [(5, .int (nI 0)), (0, .ref b), (1, .ref (aw_r ad 0)), (2, .ref (aw_m ad 0)), (3, .ref (aw_o ad)), (4, .int (nI (6 * t)))] := hl
          refine lv_aload_n hx hb d_La_law_722 rfl (lv_at hl 3 rfl) ?_
          refine lv_aload_n hx hb d_La_law_723 rfl (lv_at hl 1 rfl) ?_
          refine lv_iload hx hb d_La_law_724 (lv_at hl 5 rfl) ?_
          refine lv_iconst (v := nI 1) hx hb d_La_law_726 (by decide +kernel) ?_
          refine lv_iadd hx hb d_La_law_727 ?_
          refine aw_ti (nI_add (6 * t) 1) ?_
          refine va_sld hx hb hX hbl hbA hS (i := (nI ((6 * t) + 1))) (vp_in_nI (by omega) (by omega)) d_La_law_728 ?_
          refine aw_ti (y := nI j) (by rw [nI_clamp (by omega)]; exact hc0.symm) ?_
          refine lv_aload_n hx hb d_La_law_729 rfl (lv_at hl 1 rfl) ?_
          refine lv_iload hx hb d_La_law_730 (lv_at hl 5 rfl) ?_
          refine lv_iconst (v := nI 2) hx hb d_La_law_732 (by decide +kernel) ?_
          refine lv_iadd hx hb d_La_law_733 ?_
          refine aw_ti (nI_add (6 * t) 2) ?_
          refine va_sld hx hb hX hbl hbA hS (i := (nI ((6 * t) + 2))) (vp_in_nI (by omega) (by omega)) d_La_law_734 ?_
          refine aw_ti (y := s2) (by rw [nI_clamp (by omega)]; exact hs2.symm) ?_
          refine lv_i2l hx hb d_La_law_735 rfl ?_
          refine ag_topl (fun y387 ey387 => ?_)
          refine lv_bipush (v := nI 32) hx hb d_La_law_736 (by decide +kernel) ?_
          refine lv_lshl hx hb d_La_law_738 rfl ?_
          refine ag_topl (fun y388 ey388 => ?_)
          refine lv_aload_n hx hb d_La_law_739 rfl (lv_at hl 1 rfl) ?_
          refine lv_iload hx hb d_La_law_740 (lv_at hl 5 rfl) ?_
          refine lv_iconst (v := nI 3) hx hb d_La_law_742 (by decide +kernel) ?_
          refine lv_iadd hx hb d_La_law_743 ?_
          refine aw_ti (nI_add (6 * t) 3) ?_
          refine va_sld hx hb hX hbl hbA hS (i := (nI ((6 * t) + 3))) (vp_in_nI (by omega) (by omega)) d_La_law_744 ?_
          refine aw_ti (y := s3) (by rw [nI_clamp (by omega)]; exact hs3.symm) ?_
          refine lv_i2l hx hb d_La_law_745 rfl ?_
          refine ag_topl (fun y389 ey389 => ?_)
          refine lv_ldc2 (v := 4294967295) hx hb hown (hG _ gw_13_3) d_La_law_746 ?_
          refine lv_land hx hb d_La_law_749 ?_
          refine ag_topl (fun y390 ey390 => ?_)
          refine lv_lor hx hb d_La_law_750 ?_
          refine ag_topl (fun y391 ey391 => ?_)
          obtain ⟨_, he392⟩ := zr_M0 hSh
          refine va_callv (va_runV (As := [.int (nI j), .long y391]) (rest := []) ⟨hx, hb, hml, hown, hG⟩ (k_Mo_seek1V l D g ad N0 zG zO zX385 zY386 zA zB zM zI zL zK zN zF zQ j y391 hj (by omega)) (aw_wV 2 hG gw_12_45 gw_12_42 gw_0_10 gw_12_43 gw_12_44 rfl rfl hd_Mo_seek ⟨Nat.le_of_ble_eq_true rfl, Nat.le_of_ble_eq_true rfl⟩) (ag_qV (va_recv hK hP rfl he392) hP hD hSh hU hS) rfl rfl hl.1 rfl (lv_room (Nat.le_of_ble_eq_true rfl)) d_La_law_751 ⟨by omega, by omega⟩) hS (fun _ _ h => h) (fun _ h => h) ?_
          clear hP hD hSh hS he392
          intro u8 t8 H locs ht _ _ hB _ _ hS
          obtain ⟨L, hP, hD, hSh⟩ := hB
          rw [ht] at hP
          clear ht
          obtain ⟨zI393, ezI393⟩ : ∃ z : Nat → Nat → Int32, v_Mo_seek1V_zI zI zL j y391 = z := ⟨_, rfl⟩
          rw [ezI393] at hSh
          obtain ⟨zL394, ezL394⟩ : ∃ z : Nat → Nat → Int64, v_Mo_seek1V_zL zI zL j y391 = z := ⟨_, rfl⟩
          rw [ezL394] at hSh
          refine lv_goto (tgt := 837) hx hb d_La_law_754 (by decide) ?_
          refine lv_iinc (k := 5) (v := nI (6 * t + 6)) hx hb d_La_law_837 hl rfl (aw_inc (6 * t) 6 6 (by decide +kernel)) (by decide) rfl (fun ls hl => ?_)
          have hl : lv_has ls 8 [(4, .int (nI (6 * t + 6))), (5, .int (nI 0)), (0, .ref b), (1, .ref (aw_r ad 0)), (2, .ref (aw_m ad 0)), (3, .ref (aw_o ad))] := hl
          refine lv_goto (tgt := 23) hx hb d_La_law_840 (by decide) ?_
          have hl := lv_sub hl (l' := [(0, .ref b), (1, .ref (aw_r ad 0)), (2, .ref (aw_m ad 0)), (3, .ref (aw_o ad)), (4, .int (nI (6 * t + 6)))]) [2, 3, 4, 5, 0] rfl
          refine W.widen (k := 85 + (t + 1)) (n := 1246 + 6 * (t + 1)) (by omega) (by omega) ?_
          have hR : az_R zG zO zX385 zY386 zA zB zM zI393 zL394 := by
            subst ezL394 ezI393 ey391 ey390 ey389 ey388 ey387 ezY386 ezX385 ey383 ey382 ey381 ey380 ey379
            exact r_seek1 hR hj hs
          exact ih (t + 1) zG zO zX385 zY386 zA zB zM zI393 zL394 zK zN (nI 0) zQ _ _ L ls (by omega) hP hD hSh hR hS (by first | exact hl | simpa [Nat.mul_add] using hl)
        · refine lv_aload_n hx hb d_La_law_688 rfl (lv_at hl 1 rfl) ?_
          refine lv_aload_n hx hb d_La_law_689 rfl (lv_at hl 0 rfl) ?_
          refine lv_iload hx hb d_La_law_690 (lv_at hl 4 rfl) ?_
          refine lv_iconst (v := nI 1) hx hb d_La_law_692 (by decide +kernel) ?_
          refine lv_iadd hx hb d_La_law_693 ?_
          refine aw_ti (nI_add (6 * t) 1) ?_
          refine va_sld hx hb hX hbl hbA hS (i := (nI ((6 * t) + 1))) (vp_in_nI (by omega) (by omega)) d_La_law_694 ?_
          refine aw_ti (y := nI j) (by rw [nI_clamp (by omega)]; exact hc0.symm) ?_
          refine lv_aload_n hx hb d_La_law_695 rfl (lv_at hl 0 rfl) ?_
          refine lv_iload hx hb d_La_law_696 (lv_at hl 4 rfl) ?_
          refine lv_iconst (v := nI 2) hx hb d_La_law_698 (by decide +kernel) ?_
          refine lv_iadd hx hb d_La_law_699 ?_
          refine aw_ti (nI_add (6 * t) 2) ?_
          refine va_sld hx hb hX hbl hbA hS (i := (nI ((6 * t) + 2))) (vp_in_nI (by omega) (by omega)) d_La_law_700 ?_
          refine aw_ti (y := s2) (by rw [nI_clamp (by omega)]; exact hs2.symm) ?_
          refine lv_i2l hx hb d_La_law_701 rfl ?_
          refine ag_topl (fun y395 ey395 => ?_)
          refine lv_bipush (v := nI 32) hx hb d_La_law_702 (by decide +kernel) ?_
          refine lv_lshl hx hb d_La_law_704 rfl ?_
          refine ag_topl (fun y396 ey396 => ?_)
          refine lv_aload_n hx hb d_La_law_705 rfl (lv_at hl 0 rfl) ?_
          refine lv_iload hx hb d_La_law_706 (lv_at hl 4 rfl) ?_
          refine lv_iconst (v := nI 3) hx hb d_La_law_708 (by decide +kernel) ?_
          refine lv_iadd hx hb d_La_law_709 ?_
          refine aw_ti (nI_add (6 * t) 3) ?_
          refine va_sld hx hb hX hbl hbA hS (i := (nI ((6 * t) + 3))) (vp_in_nI (by omega) (by omega)) d_La_law_710 ?_
          refine aw_ti (y := s3) (by rw [nI_clamp (by omega)]; exact hs3.symm) ?_
          refine lv_i2l hx hb d_La_law_711 rfl ?_
          refine ag_topl (fun y397 ey397 => ?_)
          refine lv_ldc2 (v := 4294967295) hx hb hown (hG _ gw_13_3) d_La_law_712 ?_
          refine lv_land hx hb d_La_law_715 ?_
          refine ag_topl (fun y398 ey398 => ?_)
          refine lv_lor hx hb d_La_law_716 ?_
          refine ag_topl (fun y399 ey399 => ?_)
          refine va_calli (vx_runSW (As := [.ref (aw_r ad 0), .int (nI j), .long y399]) (rest := []) ⟨hx, hb, hml, hown, hG⟩ (k_La_seekXsV l hst D g ad N0 zG zO zX zY zA zB zM zI zL zK zN zF zQ j y399 hj (by omega)) (aw_wW 3 hG gw_8_26 gw_8_24 gw_0_0 gw_8_25 rfl rfl hd_La_seek ⟨Nat.le_of_ble_eq_true rfl, Nat.le_of_ble_eq_true rfl⟩) (ag_qS hP hD hSh hU hS) rfl rfl hl.1 rfl (lv_room (Nat.le_of_ble_eq_true rfl)) d_La_law_717 ⟨by omega, by omega⟩) hS (fun _ _ h => h) (fun _ h => h) ?_
          clear hP hD hSh hS
          intro x400 u8 t8 H locs ht _ ex400 hB _ _ hS
          obtain ⟨L, hP, hD, hSh⟩ := hB
          rw [ht] at hP
          clear ht
          subst ex400
          refine lv_istore hx hb d_La_law_720 hl (by decide) rfl (fun ls hl => ?_)
          have hl : lv_has ls 8 [(5, .int (nI 2)), (0, .ref b), (1, .ref (aw_r ad 0)), (2, .ref (aw_m ad 0)), (3, .ref (aw_o ad)), (4, .int (nI (6 * t)))] := hl
          refine lv_aload_n hx hb d_La_law_722 rfl (lv_at hl 3 rfl) ?_
          refine lv_aload_n hx hb d_La_law_723 rfl (lv_at hl 1 rfl) ?_
          refine lv_iload hx hb d_La_law_724 (lv_at hl 5 rfl) ?_
          refine lv_iconst (v := nI 1) hx hb d_La_law_726 (by decide +kernel) ?_
          refine lv_iadd hx hb d_La_law_727 ?_
          refine aw_ti (nI_add (6 * t) 1) ?_
          refine va_sld hx hb hX hbl hbA hS (i := (nI ((6 * t) + 1))) (vp_in_nI (by omega) (by omega)) d_La_law_728 ?_
          refine aw_ti (y := nI j) (by rw [nI_clamp (by omega)]; exact hc0.symm) ?_
          refine lv_aload_n hx hb d_La_law_729 rfl (lv_at hl 1 rfl) ?_
          refine lv_iload hx hb d_La_law_730 (lv_at hl 5 rfl) ?_
          refine lv_iconst (v := nI 2) hx hb d_La_law_732 (by decide +kernel) ?_
          refine lv_iadd hx hb d_La_law_733 ?_
          refine aw_ti (nI_add (6 * t) 2) ?_
          refine va_sld hx hb hX hbl hbA hS (i := (nI ((6 * t) + 2))) (vp_in_nI (by omega) (by omega)) d_La_law_734 ?_
          refine aw_ti (y := s2) (by rw [nI_clamp (by omega)]; exact hs2.symm) ?_
          refine lv_i2l hx hb d_La_law_735 rfl ?_
          refine ag_topl (fun y401 ey401 => ?_)
          refine lv_bipush (v := nI 32) hx hb d_La_law_736 (by decide +kernel) ?_
          refine lv_lshl hx hb d_La_law_738 rfl ?_
          refine ag_topl (fun y402 ey402 => ?_)
          refine lv_aload_n hx hb d_La_law_739 rfl (lv_at hl 1 rfl) ?_
          refine lv_iload hx hb d_La_law_740 (lv_at hl 5 rfl) ?_
          refine lv_iconst (v := nI 3) hx hb d_La_law_742 (by decide +kernel) ?_
          refine lv_iadd hx hb d_La_law_743 ?_
          refine aw_ti (nI_add (6 * t) 3) ?_
          refine va_sld hx hb hX hbl hbA hS (i := (nI ((6 * t) + 3))) (vp_in_nI (by omega) (by omega)) d_La_law_744 ?_
          refine aw_ti (y := s3) (by rw [nI_clamp (by omega)]; exact hs3.symm) ?_
          refine lv_i2l hx hb d_La_law_745 rfl ?_
          refine ag_topl (fun y403 ey403 => ?_)
          refine lv_ldc2 (v := 4294967295) hx hb hown (hG _ gw_13_3) d_La_law_746 ?_
          refine lv_land hx hb d_La_law_749 ?_
          refine ag_topl (fun y404 ey404 => ?_)
          refine lv_lor hx hb d_La_law_750 ?_
          refine ag_topl (fun y405 ey405 => ?_)
          obtain ⟨_, he406⟩ := zr_M0 hSh
          refine va_callv (va_runV (As := [.int (nI j), .long y405]) (rest := []) ⟨hx, hb, hml, hown, hG⟩ (k_Mo_seekXsV l D g ad N0 zG zO zX zY zA zB zM zI zL zK zN zF zQ j y405 hj (by omega)) (aw_wV 2 hG gw_12_45 gw_12_42 gw_0_10 gw_12_43 gw_12_44 rfl rfl hd_Mo_seek ⟨Nat.le_of_ble_eq_true rfl, Nat.le_of_ble_eq_true rfl⟩) (ag_qV (va_recv hK hP rfl he406) hP hD hSh hU hS) rfl rfl hl.1 rfl (lv_room (Nat.le_of_ble_eq_true rfl)) d_La_law_751 ⟨by omega, by omega⟩) hS (fun _ _ h => h) (fun _ h => h) ?_
          clear hP hD hSh hS he406
          intro u8 t8 H locs ht _ _ hB _ _ hS
          obtain ⟨L, hP, hD, hSh⟩ := hB
          rw [ht] at hP
          clear ht
          refine lv_goto (tgt := 837) hx hb d_La_law_754 (by decide) ?_
          refine lv_iinc (k := 5) (v := nI (6 * t + 6)) hx hb d_La_law_837 hl rfl (aw_inc (6 * t) 6 6 (by decide +kernel)) (by decide) rfl (fun ls hl => ?_)
          have hl : lv_has ls 8 [(4, .int (nI (6 * t + 6))), (5, .int (nI 2)), (0, .ref b), (1, .ref (aw_r ad 0)), (2, .ref (aw_m ad 0)), (3, .ref (aw_o ad))] := hl
          refine lv_goto (tgt := 23) hx hb d_La_law_840 (by decide) ?_
          have hl := lv_sub hl (l' := [(0, .ref b), (1, .ref (aw_r ad 0)), (2, .ref (aw_m ad 0)), (3, .ref (aw_o ad)), (4, .int (nI (6 * t + 6)))]) [2, 3, 4, 5, 0] rfl
          refine W.widen (k := 85 + (t + 1)) (n := 1246 + 6 * (t + 1)) (by omega) (by omega) ?_
          exact ih (t + 1) zG zO zX zY zA zB zM zI zL zK zN (nI 2) zQ _ _ L ls (by omega) hP hD hSh hR hS (by first | exact hl | simpa [Nat.mul_add] using hl)
    · refine aw_ti (y := nI 11) (by rw [hs3]) ?_
      refine lv_tableIn (tgt := 757) (off := 717) hx hb d_La_law_40 (by decide +kernel) (by decide +kernel) (by decide +kernel) (by decide) ?_
      obtain ⟨c0, hc0⟩ : ∃ z : Int32, z = xs (6 * t + 1) := ⟨_, rfl⟩
      obtain ⟨fr, hfr⟩ : ∃ z : Int32, z = xs (6 * t + 2) := ⟨_, rfl⟩
      obtain ⟨m0, hm0⟩ : ∃ z : Int32, z = xs (6 * t + 3) := ⟨_, rfl⟩
      rcases aw_rng 4 (by decide) c0 with hc | ⟨j, hj, rfl⟩
      · refine lv_aload_n hx hb d_La_law_757 rfl (lv_at hl 1 rfl) ?_
        refine lv_aload_n hx hb d_La_law_758 rfl (lv_at hl 0 rfl) ?_
        refine lv_iload hx hb d_La_law_759 (lv_at hl 4 rfl) ?_
        refine lv_iconst (v := nI 1) hx hb d_La_law_761 (by decide +kernel) ?_
        refine lv_iadd hx hb d_La_law_762 ?_
        refine aw_ti (nI_add (6 * t) 1) ?_
        refine va_sld hx hb hX hbl hbA hS (i := (nI ((6 * t) + 1))) (vp_in_nI (by omega) (by omega)) d_La_law_763 ?_
        refine aw_ti (y := c0) (by rw [nI_clamp (by omega)]; exact hc0.symm) ?_
        refine lv_aload_n hx hb d_La_law_764 rfl (lv_at hl 0 rfl) ?_
        refine lv_iload hx hb d_La_law_765 (lv_at hl 4 rfl) ?_
        refine lv_iconst (v := nI 2) hx hb d_La_law_767 (by decide +kernel) ?_
        refine lv_iadd hx hb d_La_law_768 ?_
        refine aw_ti (nI_add (6 * t) 2) ?_
        refine va_sld hx hb hX hbl hbA hS (i := (nI ((6 * t) + 2))) (vp_in_nI (by omega) (by omega)) d_La_law_769 ?_
        refine aw_ti (y := fr) (by rw [nI_clamp (by omega)]; exact hfr.symm) ?_
        refine lv_aload_n hx hb d_La_law_770 rfl (lv_at hl 0 rfl) ?_
        refine lv_iload hx hb d_La_law_771 (lv_at hl 4 rfl) ?_
        refine lv_iconst (v := nI 3) hx hb d_La_law_773 (by decide +kernel) ?_
        refine lv_iadd hx hb d_La_law_774 ?_
        refine aw_ti (nI_add (6 * t) 3) ?_
        refine va_sld hx hb hX hbl hbA hS (i := (nI ((6 * t) + 3))) (vp_in_nI (by omega) (by omega)) d_La_law_775 ?_
        refine aw_ti (y := m0) (by rw [nI_clamp (by omega)]; exact hm0.symm) ?_
        refine lv_aload_n hx hb d_La_law_776 rfl (lv_at hl 3 rfl) ?_
        refine va_calli (vx_runSW (As := [.ref (aw_r ad 0), .int c0, .int fr, .int m0, .ref (aw_o ad)]) (rest := []) ⟨hx, hb, hml, hown, hG⟩ (k_La_takeXcV l hst D g ad N0 zG zO zX zY zA zB zM zI zL zK zN zF zQ c0 fr m0 hc) (aw_wW 5 hG gw_8_40 gw_8_38 gw_0_0 gw_8_39 rfl rfl hd_La_take ⟨Nat.le_of_ble_eq_true rfl, Nat.le_of_ble_eq_true rfl⟩) (ag_qS hP hD hSh hU hS) rfl rfl hl.1 rfl (lv_room (Nat.le_of_ble_eq_true rfl)) d_La_law_777 ⟨by omega, by omega⟩) hS (fun _ _ h => h) (fun _ h => h) ?_
        clear hP hD hSh hS
        intro x407 u8 t8 H locs ht _ ex407 hB _ _ hS
        obtain ⟨L, hP, hD, hSh⟩ := hB
        rw [ht] at hP
        clear ht
        subst ex407
        refine lv_istore hx hb d_La_law_780 hl (by decide) rfl (fun ls hl => ?_)
        have hl : lv_has ls 8 [(5, .int (nI 1)), (0, .ref b), (1, .ref (aw_r ad 0)), (2, .ref (aw_m ad 0)), (3, .ref (aw_o ad)), (4, .int (nI (6 * t)))] := hl
        refine lv_aload_n hx hb d_La_law_782 rfl (lv_at hl 3 rfl) ?_
        refine lv_aload_n hx hb d_La_law_783 rfl (lv_at hl 1 rfl) ?_
        refine lv_iload hx hb d_La_law_784 (lv_at hl 5 rfl) ?_
        refine lv_iconst (v := nI 1) hx hb d_La_law_786 (by decide +kernel) ?_
        refine lv_iadd hx hb d_La_law_787 ?_
        refine aw_ti (nI_add (6 * t) 1) ?_
        refine va_sld hx hb hX hbl hbA hS (i := (nI ((6 * t) + 1))) (vp_in_nI (by omega) (by omega)) d_La_law_788 ?_
        refine aw_ti (y := c0) (by rw [nI_clamp (by omega)]; exact hc0.symm) ?_
        refine lv_aload_n hx hb d_La_law_789 rfl (lv_at hl 1 rfl) ?_
        refine lv_iload hx hb d_La_law_790 (lv_at hl 5 rfl) ?_
        refine lv_iconst (v := nI 2) hx hb d_La_law_792 (by decide +kernel) ?_
        refine lv_iadd hx hb d_La_law_793 ?_
        refine aw_ti (nI_add (6 * t) 2) ?_
        refine va_sld hx hb hX hbl hbA hS (i := (nI ((6 * t) + 2))) (vp_in_nI (by omega) (by omega)) d_La_law_794 ?_
        refine aw_ti (y := fr) (by rw [nI_clamp (by omega)]; exact hfr.symm) ?_
        refine lv_aload_n hx hb d_La_law_795 rfl (lv_at hl 1 rfl) ?_
        refine lv_iload hx hb d_La_law_796 (lv_at hl 5 rfl) ?_
        refine lv_iconst (v := nI 3) hx hb d_La_law_798 (by decide +kernel) ?_
        refine lv_iadd hx hb d_La_law_799 ?_
        refine aw_ti (nI_add (6 * t) 3) ?_
        refine va_sld hx hb hX hbl hbA hS (i := (nI ((6 * t) + 3))) (vp_in_nI (by omega) (by omega)) d_La_law_800 ?_
        refine aw_ti (y := m0) (by rw [nI_clamp (by omega)]; exact hm0.symm) ?_
        obtain ⟨_, he408⟩ := zr_M0 hSh
        refine va_calli (va_runV (As := [.int c0, .int fr, .int m0]) (rest := []) ⟨hx, hb, hml, hown, hG⟩ (k_Mo_takeXcV l D g ad N0 zG zO zX zY zA zB zM zI zL zK zN zF zQ c0 fr m0 hc) (aw_wV 3 hG gw_12_49 gw_12_46 gw_0_10 gw_12_47 gw_12_48 rfl rfl hd_Mo_take ⟨Nat.le_of_ble_eq_true rfl, Nat.le_of_ble_eq_true rfl⟩) (ag_qV (va_recv hK hP rfl he408) hP hD hSh hU hS) rfl rfl hl.1 rfl (lv_room (Nat.le_of_ble_eq_true rfl)) d_La_law_801 ⟨by omega, by omega⟩) hS (fun _ _ h => h) (fun _ h => h) ?_
        clear hP hD hSh hS he408
        intro x409 u8 t8 H locs ht _ ex409 hB _ _ hS
        obtain ⟨L, hP, hD, hSh⟩ := hB
        rw [ht] at hP
        clear ht
        have ex409 := ex409.symm
        refine lv_istore hx hb d_La_law_804 hl (by decide) rfl (fun ls hl => ?_)
        have hl : lv_has ls 8 [(6, .int x409), (5, .int (nI 1)), (0, .ref b), (1, .ref (aw_r ad 0)), (2, .ref (aw_m ad 0)), (3, .ref (aw_o ad)), (4, .int (nI (6 * t)))] := hl
        refine lv_goto (tgt := 837) hx hb d_La_law_806 (by decide) ?_
        refine lv_iinc (k := 6) (v := nI (6 * t + 6)) hx hb d_La_law_837 hl rfl (aw_inc (6 * t) 6 6 (by decide +kernel)) (by decide) rfl (fun ls hl => ?_)
        have hl : lv_has ls 8 [(4, .int (nI (6 * t + 6))), (6, .int x409), (5, .int (nI 1)), (0, .ref b), (1, .ref (aw_r ad 0)), (2, .ref (aw_m ad 0)), (3, .ref (aw_o ad))] := hl
        refine lv_goto (tgt := 23) hx hb d_La_law_840 (by decide) ?_
        have hl := lv_sub hl (l' := [(0, .ref b), (1, .ref (aw_r ad 0)), (2, .ref (aw_m ad 0)), (3, .ref (aw_o ad)), (4, .int (nI (6 * t + 6)))]) [3, 4, 5, 6, 0] rfl
        refine W.widen (k := 85 + (t + 1)) (n := 1246 + 6 * (t + 1)) (by omega) (by omega) ?_
        exact ih (t + 1) zG zO zX zY zA zB zM zI zL zK zN (nI 1) zQ _ _ L ls (by omega) hP hD hSh hR hS (by first | exact hl | simpa [Nat.mul_add] using hl)
      · have hgj := hSh.2.2.2.2.1 j hj
        have hq1 : (zM j).1 = (zG j).1 := by rw [hR.1 j hj]
        have hq2 : (zM j).2 = (zG j).2 := by rw [hR.1 j hj]
        rcases aw_buf fr m0 with hi | rfl | ⟨k, mm, rfl, rfl, h0, hk⟩
        · have hi2 := aw_bp hi
          refine lv_aload_n hx hb d_La_law_757 rfl (lv_at hl 1 rfl) ?_
          refine lv_aload_n hx hb d_La_law_758 rfl (lv_at hl 0 rfl) ?_
          refine lv_iload hx hb d_La_law_759 (lv_at hl 4 rfl) ?_
          refine lv_iconst (v := nI 1) hx hb d_La_law_761 (by decide +kernel) ?_
          refine lv_iadd hx hb d_La_law_762 ?_
          refine aw_ti (nI_add (6 * t) 1) ?_
          refine va_sld hx hb hX hbl hbA hS (i := (nI ((6 * t) + 1))) (vp_in_nI (by omega) (by omega)) d_La_law_763 ?_
          refine aw_ti (y := nI j) (by rw [nI_clamp (by omega)]; exact hc0.symm) ?_
          refine lv_aload_n hx hb d_La_law_764 rfl (lv_at hl 0 rfl) ?_
          refine lv_iload hx hb d_La_law_765 (lv_at hl 4 rfl) ?_
          refine lv_iconst (v := nI 2) hx hb d_La_law_767 (by decide +kernel) ?_
          refine lv_iadd hx hb d_La_law_768 ?_
          refine aw_ti (nI_add (6 * t) 2) ?_
          refine va_sld hx hb hX hbl hbA hS (i := (nI ((6 * t) + 2))) (vp_in_nI (by omega) (by omega)) d_La_law_769 ?_
          refine aw_ti (y := fr) (by rw [nI_clamp (by omega)]; exact hfr.symm) ?_
          refine lv_aload_n hx hb d_La_law_770 rfl (lv_at hl 0 rfl) ?_
          refine lv_iload hx hb d_La_law_771 (lv_at hl 4 rfl) ?_
          refine lv_iconst (v := nI 3) hx hb d_La_law_773 (by decide +kernel) ?_
          refine lv_iadd hx hb d_La_law_774 ?_
          refine aw_ti (nI_add (6 * t) 3) ?_
          refine va_sld hx hb hX hbl hbA hS (i := (nI ((6 * t) + 3))) (vp_in_nI (by omega) (by omega)) d_La_law_775 ?_
          refine aw_ti (y := m0) (by rw [nI_clamp (by omega)]; exact hm0.symm) ?_
          refine lv_aload_n hx hb d_La_law_776 rfl (lv_at hl 3 rfl) ?_
          refine va_calli (vx_runSW (As := [.ref (aw_r ad 0), .int (nI j), .int fr, .int m0, .ref (aw_o ad)]) (rest := []) ⟨hx, hb, hml, hown, hG⟩ (k_La_takeXbV l hst D g ad N0 zG zO zX zY zA zB zM zI zL zK zN zF zQ j fr m0 hj hi) (aw_wW 5 hG gw_8_40 gw_8_38 gw_0_0 gw_8_39 rfl rfl hd_La_take ⟨Nat.le_of_ble_eq_true rfl, Nat.le_of_ble_eq_true rfl⟩) (ag_qS hP hD hSh hU hS) rfl rfl hl.1 rfl (lv_room (Nat.le_of_ble_eq_true rfl)) d_La_law_777 ⟨by omega, by omega⟩) hS (fun _ _ h => h) (fun _ h => h) ?_
          clear hP hD hSh hS
          intro x410 u8 t8 H locs ht _ ex410 hB _ _ hS
          obtain ⟨L, hP, hD, hSh⟩ := hB
          rw [ht] at hP
          clear ht
          subst ex410
          refine lv_istore hx hb d_La_law_780 hl (by decide) rfl (fun ls hl => ?_)
          have hl : lv_has ls 8 [(5, .int (nI 1)), (0, .ref b), (1, .ref (aw_r ad 0)), (2, .ref (aw_m ad 0)), (3, .ref (aw_o ad)), (4, .int (nI (6 * t)))] := hl
          refine lv_aload_n hx hb d_La_law_782 rfl (lv_at hl 3 rfl) ?_
          refine lv_aload_n hx hb d_La_law_783 rfl (lv_at hl 1 rfl) ?_
          refine lv_iload hx hb d_La_law_784 (lv_at hl 5 rfl) ?_
          refine lv_iconst (v := nI 1) hx hb d_La_law_786 (by decide +kernel) ?_
          refine lv_iadd hx hb d_La_law_787 ?_
          refine aw_ti (nI_add (6 * t) 1) ?_
          refine va_sld hx hb hX hbl hbA hS (i := (nI ((6 * t) + 1))) (vp_in_nI (by omega) (by omega)) d_La_law_788 ?_
          refine aw_ti (y := nI j) (by rw [nI_clamp (by omega)]; exact hc0.symm) ?_
          refine lv_aload_n hx hb d_La_law_789 rfl (lv_at hl 1 rfl) ?_
          refine lv_iload hx hb d_La_law_790 (lv_at hl 5 rfl) ?_
          refine lv_iconst (v := nI 2) hx hb d_La_law_792 (by decide +kernel) ?_
          refine lv_iadd hx hb d_La_law_793 ?_
          refine aw_ti (nI_add (6 * t) 2) ?_
          refine va_sld hx hb hX hbl hbA hS (i := (nI ((6 * t) + 2))) (vp_in_nI (by omega) (by omega)) d_La_law_794 ?_
          refine aw_ti (y := fr) (by rw [nI_clamp (by omega)]; exact hfr.symm) ?_
          refine lv_aload_n hx hb d_La_law_795 rfl (lv_at hl 1 rfl) ?_
          refine lv_iload hx hb d_La_law_796 (lv_at hl 5 rfl) ?_
          refine lv_iconst (v := nI 3) hx hb d_La_law_798 (by decide +kernel) ?_
          refine lv_iadd hx hb d_La_law_799 ?_
          refine aw_ti (nI_add (6 * t) 3) ?_
          refine va_sld hx hb hX hbl hbA hS (i := (nI ((6 * t) + 3))) (vp_in_nI (by omega) (by omega)) d_La_law_800 ?_
          refine aw_ti (y := m0) (by rw [nI_clamp (by omega)]; exact hm0.symm) ?_
          obtain ⟨_, he411⟩ := zr_M0 hSh
          refine va_calli (va_runV (As := [.int (nI j), .int fr, .int m0]) (rest := []) ⟨hx, hb, hml, hown, hG⟩ (k_Mo_takeXbV l D g ad N0 zG zO zX zY zA zB zM zI zL zK zN zF zQ j fr m0 hj hi2) (aw_wV 3 hG gw_12_49 gw_12_46 gw_0_10 gw_12_47 gw_12_48 rfl rfl hd_Mo_take ⟨Nat.le_of_ble_eq_true rfl, Nat.le_of_ble_eq_true rfl⟩) (ag_qV (va_recv hK hP rfl he411) hP hD hSh hU hS) rfl rfl hl.1 rfl (lv_room (Nat.le_of_ble_eq_true rfl)) d_La_law_801 ⟨by omega, by omega⟩) hS (fun _ _ h => h) (fun _ h => h) ?_
          clear hP hD hSh hS he411
          intro x412 u8 t8 H locs ht _ ex412 hB _ _ hS
          obtain ⟨L, hP, hD, hSh⟩ := hB
          rw [ht] at hP
          clear ht
          have ex412 := ex412.symm
          refine lv_istore hx hb d_La_law_804 hl (by decide) rfl (fun ls hl => ?_)
          have hl : lv_has ls 8 [(6, .int x412), (5, .int (nI 1)), (0, .ref b), (1, .ref (aw_r ad 0)), (2, .ref (aw_m ad 0)), (3, .ref (aw_o ad)), (4, .int (nI (6 * t)))] := hl
          refine lv_goto (tgt := 837) hx hb d_La_law_806 (by decide) ?_
          refine lv_iinc (k := 6) (v := nI (6 * t + 6)) hx hb d_La_law_837 hl rfl (aw_inc (6 * t) 6 6 (by decide +kernel)) (by decide) rfl (fun ls hl => ?_)
          have hl : lv_has ls 8 [(4, .int (nI (6 * t + 6))), (6, .int x412), (5, .int (nI 1)), (0, .ref b), (1, .ref (aw_r ad 0)), (2, .ref (aw_m ad 0)), (3, .ref (aw_o ad))] := hl
          refine lv_goto (tgt := 23) hx hb d_La_law_840 (by decide) ?_
          have hl := lv_sub hl (l' := [(0, .ref b), (1, .ref (aw_r ad 0)), (2, .ref (aw_m ad 0)), (3, .ref (aw_o ad)), (4, .int (nI (6 * t + 6)))]) [3, 4, 5, 6, 0] rfl
          refine W.widen (k := 85 + (t + 1)) (n := 1246 + 6 * (t + 1)) (by omega) (by omega) ?_
          exact ih (t + 1) zG zO zX zY zA zB zM zI zL zK zN (nI 1) zQ _ _ L ls (by omega) hP hD hSh hR hS (by first | exact hl | simpa [Nat.mul_add] using hl)
        · rcases aw_p0f fr with hi | ⟨k, rfl, hk⟩
          · by_cases hs : (zG j).1 = 3 ∧ (zG j).2 = 5
            · refine lv_aload_n hx hb d_La_law_757 rfl (lv_at hl 1 rfl) ?_
              refine lv_aload_n hx hb d_La_law_758 rfl (lv_at hl 0 rfl) ?_
              refine lv_iload hx hb d_La_law_759 (lv_at hl 4 rfl) ?_
              refine lv_iconst (v := nI 1) hx hb d_La_law_761 (by decide +kernel) ?_
              refine lv_iadd hx hb d_La_law_762 ?_
              refine aw_ti (nI_add (6 * t) 1) ?_
              refine va_sld hx hb hX hbl hbA hS (i := (nI ((6 * t) + 1))) (vp_in_nI (by omega) (by omega)) d_La_law_763 ?_
              refine aw_ti (y := nI j) (by rw [nI_clamp (by omega)]; exact hc0.symm) ?_
              refine lv_aload_n hx hb d_La_law_764 rfl (lv_at hl 0 rfl) ?_
              refine lv_iload hx hb d_La_law_765 (lv_at hl 4 rfl) ?_
              refine lv_iconst (v := nI 2) hx hb d_La_law_767 (by decide +kernel) ?_
              refine lv_iadd hx hb d_La_law_768 ?_
              refine aw_ti (nI_add (6 * t) 2) ?_
              refine va_sld hx hb hX hbl hbA hS (i := (nI ((6 * t) + 2))) (vp_in_nI (by omega) (by omega)) d_La_law_769 ?_
              refine aw_ti (y := fr) (by rw [nI_clamp (by omega)]; exact hfr.symm) ?_
              refine lv_aload_n hx hb d_La_law_770 rfl (lv_at hl 0 rfl) ?_
              refine lv_iload hx hb d_La_law_771 (lv_at hl 4 rfl) ?_
              refine lv_iconst (v := nI 3) hx hb d_La_law_773 (by decide +kernel) ?_
              refine lv_iadd hx hb d_La_law_774 ?_
              refine aw_ti (nI_add (6 * t) 3) ?_
              refine va_sld hx hb hX hbl hbA hS (i := (nI ((6 * t) + 3))) (vp_in_nI (by omega) (by omega)) d_La_law_775 ?_
              refine aw_ti (y := nI 0) (by rw [nI_clamp (by omega)]; exact hm0.symm) ?_
              refine lv_aload_n hx hb d_La_law_776 rfl (lv_at hl 3 rfl) ?_
              refine va_calli (vx_runSW (As := [.ref (aw_r ad 0), .int (nI j), .int fr, .int (nI 0), .ref (aw_o ad)]) (rest := []) ⟨hx, hb, hml, hown, hG⟩ (k_La_take10V l hst D g ad N0 zG zO zX zY zA zB zM zI zL zK zN zF zQ j fr hj (by omega)) (aw_wW 5 hG gw_8_40 gw_8_38 gw_0_0 gw_8_39 rfl rfl hd_La_take ⟨Nat.le_of_ble_eq_true rfl, Nat.le_of_ble_eq_true rfl⟩) (ag_qS hP hD hSh hU hS) rfl rfl hl.1 rfl (lv_room (Nat.le_of_ble_eq_true rfl)) d_La_law_777 ⟨by omega, by omega⟩) hS (fun _ _ h => h) (fun _ h => h) ?_
              clear hP hD hSh hS
              intro x413 u8 t8 H locs ht _ ex413 hB _ _ hS
              obtain ⟨L, hP, hD, hSh⟩ := hB
              rw [ht] at hP
              clear ht
              subst ex413
              obtain ⟨zY414, ezY414⟩ : ∃ z : Nat → Nat → Int32, v_La_take10V_zY zY j = z := ⟨_, rfl⟩
              rw [ezY414] at hSh
              obtain ⟨zQ415, ezQ415⟩ : ∃ z : Int64, v_La_take10V_zQ zY j = z := ⟨_, rfl⟩
              rw [ezQ415] at hSh
              refine lv_istore hx hb d_La_law_780 hl (by decide) rfl (fun ls hl => ?_)
              have hl : lv_has ls 8 [(5, .int (nI 0)), (0, .ref b), (1, .ref (aw_r ad 0)), (2, .ref (aw_m ad 0)), (3, .ref (aw_o ad)), (4, .int (nI (6 * t)))] := hl
              refine lv_aload_n hx hb d_La_law_782 rfl (lv_at hl 3 rfl) ?_
              refine lv_aload_n hx hb d_La_law_783 rfl (lv_at hl 1 rfl) ?_
              refine lv_iload hx hb d_La_law_784 (lv_at hl 5 rfl) ?_
              refine lv_iconst (v := nI 1) hx hb d_La_law_786 (by decide +kernel) ?_
              refine lv_iadd hx hb d_La_law_787 ?_
              refine aw_ti (nI_add (6 * t) 1) ?_
              refine va_sld hx hb hX hbl hbA hS (i := (nI ((6 * t) + 1))) (vp_in_nI (by omega) (by omega)) d_La_law_788 ?_
              refine aw_ti (y := nI j) (by rw [nI_clamp (by omega)]; exact hc0.symm) ?_
              refine lv_aload_n hx hb d_La_law_789 rfl (lv_at hl 1 rfl) ?_
              refine lv_iload hx hb d_La_law_790 (lv_at hl 5 rfl) ?_
              refine lv_iconst (v := nI 2) hx hb d_La_law_792 (by decide +kernel) ?_
              refine lv_iadd hx hb d_La_law_793 ?_
              refine aw_ti (nI_add (6 * t) 2) ?_
              refine va_sld hx hb hX hbl hbA hS (i := (nI ((6 * t) + 2))) (vp_in_nI (by omega) (by omega)) d_La_law_794 ?_
              refine aw_ti (y := fr) (by rw [nI_clamp (by omega)]; exact hfr.symm) ?_
              refine lv_aload_n hx hb d_La_law_795 rfl (lv_at hl 1 rfl) ?_
              refine lv_iload hx hb d_La_law_796 (lv_at hl 5 rfl) ?_
              refine lv_iconst (v := nI 3) hx hb d_La_law_798 (by decide +kernel) ?_
              refine lv_iadd hx hb d_La_law_799 ?_
              refine aw_ti (nI_add (6 * t) 3) ?_
              refine va_sld hx hb hX hbl hbA hS (i := (nI ((6 * t) + 3))) (vp_in_nI (by omega) (by omega)) d_La_law_800 ?_
              refine aw_ti (y := nI 0) (by rw [nI_clamp (by omega)]; exact hm0.symm) ?_
              obtain ⟨_, he416⟩ := zr_M0 hSh
              refine va_calli (va_runV (As := [.int (nI j), .int fr, .int (nI 0)]) (rest := []) ⟨hx, hb, hml, hown, hG⟩ (k_Mo_takeXbV l D g ad N0 zG zO zX zY414 zA zB zM zI zL zK zN zF zQ415 j fr (nI 0) hj hi) (aw_wV 3 hG gw_12_49 gw_12_46 gw_0_10 gw_12_47 gw_12_48 rfl rfl hd_Mo_take ⟨Nat.le_of_ble_eq_true rfl, Nat.le_of_ble_eq_true rfl⟩) (ag_qV (va_recv hK hP rfl he416) hP hD hSh hU hS) rfl rfl hl.1 rfl (lv_room (Nat.le_of_ble_eq_true rfl)) d_La_law_801 ⟨by omega, by omega⟩) hS (fun _ _ h => h) (fun _ h => h) ?_
              clear hP hD hSh hS he416
              intro x417 u8 t8 H locs ht _ ex417 hB _ _ hS
              obtain ⟨L, hP, hD, hSh⟩ := hB
              rw [ht] at hP
              clear ht
              have ex417 := ex417.symm
              refine lv_istore hx hb d_La_law_804 hl (by decide) rfl (fun ls hl => ?_)
              have hl : lv_has ls 8 [(6, .int x417), (5, .int (nI 0)), (0, .ref b), (1, .ref (aw_r ad 0)), (2, .ref (aw_m ad 0)), (3, .ref (aw_o ad)), (4, .int (nI (6 * t)))] := hl
              refine lv_goto (tgt := 837) hx hb d_La_law_806 (by decide) ?_
              refine lv_iinc (k := 6) (v := nI (6 * t + 6)) hx hb d_La_law_837 hl rfl (aw_inc (6 * t) 6 6 (by decide +kernel)) (by decide) rfl (fun ls hl => ?_)
              have hl : lv_has ls 8 [(4, .int (nI (6 * t + 6))), (6, .int x417), (5, .int (nI 0)), (0, .ref b), (1, .ref (aw_r ad 0)), (2, .ref (aw_m ad 0)), (3, .ref (aw_o ad))] := hl
              refine lv_goto (tgt := 23) hx hb d_La_law_840 (by decide) ?_
              have hl := lv_sub hl (l' := [(0, .ref b), (1, .ref (aw_r ad 0)), (2, .ref (aw_m ad 0)), (3, .ref (aw_o ad)), (4, .int (nI (6 * t + 6)))]) [3, 4, 5, 6, 0] rfl
              refine W.widen (k := 85 + (t + 1)) (n := 1246 + 6 * (t + 1)) (by omega) (by omega) ?_
              have hR : az_R zG zO zX zY414 zA zB zM zI zL := by
                subst ex417 ezQ415 ezY414
                exact r_take10_Xb hR hj hs
              exact ih (t + 1) zG zO zX zY414 zA zB zM zI zL zK zN (nI 1) zQ415 _ _ L ls (by omega) hP hD hSh hR hS (by first | exact hl | simpa [Nat.mul_add] using hl)
            · refine lv_aload_n hx hb d_La_law_757 rfl (lv_at hl 1 rfl) ?_
              refine lv_aload_n hx hb d_La_law_758 rfl (lv_at hl 0 rfl) ?_
              refine lv_iload hx hb d_La_law_759 (lv_at hl 4 rfl) ?_
              refine lv_iconst (v := nI 1) hx hb d_La_law_761 (by decide +kernel) ?_
              refine lv_iadd hx hb d_La_law_762 ?_
              refine aw_ti (nI_add (6 * t) 1) ?_
              refine va_sld hx hb hX hbl hbA hS (i := (nI ((6 * t) + 1))) (vp_in_nI (by omega) (by omega)) d_La_law_763 ?_
              refine aw_ti (y := nI j) (by rw [nI_clamp (by omega)]; exact hc0.symm) ?_
              refine lv_aload_n hx hb d_La_law_764 rfl (lv_at hl 0 rfl) ?_
              refine lv_iload hx hb d_La_law_765 (lv_at hl 4 rfl) ?_
              refine lv_iconst (v := nI 2) hx hb d_La_law_767 (by decide +kernel) ?_
              refine lv_iadd hx hb d_La_law_768 ?_
              refine aw_ti (nI_add (6 * t) 2) ?_
              refine va_sld hx hb hX hbl hbA hS (i := (nI ((6 * t) + 2))) (vp_in_nI (by omega) (by omega)) d_La_law_769 ?_
              refine aw_ti (y := fr) (by rw [nI_clamp (by omega)]; exact hfr.symm) ?_
              refine lv_aload_n hx hb d_La_law_770 rfl (lv_at hl 0 rfl) ?_
              refine lv_iload hx hb d_La_law_771 (lv_at hl 4 rfl) ?_
              refine lv_iconst (v := nI 3) hx hb d_La_law_773 (by decide +kernel) ?_
              refine lv_iadd hx hb d_La_law_774 ?_
              refine aw_ti (nI_add (6 * t) 3) ?_
              refine va_sld hx hb hX hbl hbA hS (i := (nI ((6 * t) + 3))) (vp_in_nI (by omega) (by omega)) d_La_law_775 ?_
              refine aw_ti (y := nI 0) (by rw [nI_clamp (by omega)]; exact hm0.symm) ?_
              refine lv_aload_n hx hb d_La_law_776 rfl (lv_at hl 3 rfl) ?_
              refine va_calli (vx_runSW (As := [.ref (aw_r ad 0), .int (nI j), .int fr, .int (nI 0), .ref (aw_o ad)]) (rest := []) ⟨hx, hb, hml, hown, hG⟩ (k_La_takeXs0V l hst D g ad N0 zG zO zX zY zA zB zM zI zL zK zN zF zQ j fr hj (by omega)) (aw_wW 5 hG gw_8_40 gw_8_38 gw_0_0 gw_8_39 rfl rfl hd_La_take ⟨Nat.le_of_ble_eq_true rfl, Nat.le_of_ble_eq_true rfl⟩) (ag_qS hP hD hSh hU hS) rfl rfl hl.1 rfl (lv_room (Nat.le_of_ble_eq_true rfl)) d_La_law_777 ⟨by omega, by omega⟩) hS (fun _ _ h => h) (fun _ h => h) ?_
              clear hP hD hSh hS
              intro x418 u8 t8 H locs ht _ ex418 hB _ _ hS
              obtain ⟨L, hP, hD, hSh⟩ := hB
              rw [ht] at hP
              clear ht
              subst ex418
              refine lv_istore hx hb d_La_law_780 hl (by decide) rfl (fun ls hl => ?_)
              have hl : lv_has ls 8 [(5, .int (nI 2)), (0, .ref b), (1, .ref (aw_r ad 0)), (2, .ref (aw_m ad 0)), (3, .ref (aw_o ad)), (4, .int (nI (6 * t)))] := hl
              refine lv_aload_n hx hb d_La_law_782 rfl (lv_at hl 3 rfl) ?_
              refine lv_aload_n hx hb d_La_law_783 rfl (lv_at hl 1 rfl) ?_
              refine lv_iload hx hb d_La_law_784 (lv_at hl 5 rfl) ?_
              refine lv_iconst (v := nI 1) hx hb d_La_law_786 (by decide +kernel) ?_
              refine lv_iadd hx hb d_La_law_787 ?_
              refine aw_ti (nI_add (6 * t) 1) ?_
              refine va_sld hx hb hX hbl hbA hS (i := (nI ((6 * t) + 1))) (vp_in_nI (by omega) (by omega)) d_La_law_788 ?_
              refine aw_ti (y := nI j) (by rw [nI_clamp (by omega)]; exact hc0.symm) ?_
              refine lv_aload_n hx hb d_La_law_789 rfl (lv_at hl 1 rfl) ?_
              refine lv_iload hx hb d_La_law_790 (lv_at hl 5 rfl) ?_
              refine lv_iconst (v := nI 2) hx hb d_La_law_792 (by decide +kernel) ?_
              refine lv_iadd hx hb d_La_law_793 ?_
              refine aw_ti (nI_add (6 * t) 2) ?_
              refine va_sld hx hb hX hbl hbA hS (i := (nI ((6 * t) + 2))) (vp_in_nI (by omega) (by omega)) d_La_law_794 ?_
              refine aw_ti (y := fr) (by rw [nI_clamp (by omega)]; exact hfr.symm) ?_
              refine lv_aload_n hx hb d_La_law_795 rfl (lv_at hl 1 rfl) ?_
              refine lv_iload hx hb d_La_law_796 (lv_at hl 5 rfl) ?_
              refine lv_iconst (v := nI 3) hx hb d_La_law_798 (by decide +kernel) ?_
              refine lv_iadd hx hb d_La_law_799 ?_
              refine aw_ti (nI_add (6 * t) 3) ?_
              refine va_sld hx hb hX hbl hbA hS (i := (nI ((6 * t) + 3))) (vp_in_nI (by omega) (by omega)) d_La_law_800 ?_
              refine aw_ti (y := nI 0) (by rw [nI_clamp (by omega)]; exact hm0.symm) ?_
              obtain ⟨_, he419⟩ := zr_M0 hSh
              refine va_calli (va_runV (As := [.int (nI j), .int fr, .int (nI 0)]) (rest := []) ⟨hx, hb, hml, hown, hG⟩ (k_Mo_takeXbV l D g ad N0 zG zO zX zY zA zB zM zI zL zK zN zF zQ j fr (nI 0) hj hi) (aw_wV 3 hG gw_12_49 gw_12_46 gw_0_10 gw_12_47 gw_12_48 rfl rfl hd_Mo_take ⟨Nat.le_of_ble_eq_true rfl, Nat.le_of_ble_eq_true rfl⟩) (ag_qV (va_recv hK hP rfl he419) hP hD hSh hU hS) rfl rfl hl.1 rfl (lv_room (Nat.le_of_ble_eq_true rfl)) d_La_law_801 ⟨by omega, by omega⟩) hS (fun _ _ h => h) (fun _ h => h) ?_
              clear hP hD hSh hS he419
              intro x420 u8 t8 H locs ht _ ex420 hB _ _ hS
              obtain ⟨L, hP, hD, hSh⟩ := hB
              rw [ht] at hP
              clear ht
              have ex420 := ex420.symm
              refine lv_istore hx hb d_La_law_804 hl (by decide) rfl (fun ls hl => ?_)
              have hl : lv_has ls 8 [(6, .int x420), (5, .int (nI 2)), (0, .ref b), (1, .ref (aw_r ad 0)), (2, .ref (aw_m ad 0)), (3, .ref (aw_o ad)), (4, .int (nI (6 * t)))] := hl
              refine lv_goto (tgt := 837) hx hb d_La_law_806 (by decide) ?_
              refine lv_iinc (k := 6) (v := nI (6 * t + 6)) hx hb d_La_law_837 hl rfl (aw_inc (6 * t) 6 6 (by decide +kernel)) (by decide) rfl (fun ls hl => ?_)
              have hl : lv_has ls 8 [(4, .int (nI (6 * t + 6))), (6, .int x420), (5, .int (nI 2)), (0, .ref b), (1, .ref (aw_r ad 0)), (2, .ref (aw_m ad 0)), (3, .ref (aw_o ad))] := hl
              refine lv_goto (tgt := 23) hx hb d_La_law_840 (by decide) ?_
              have hl := lv_sub hl (l' := [(0, .ref b), (1, .ref (aw_r ad 0)), (2, .ref (aw_m ad 0)), (3, .ref (aw_o ad)), (4, .int (nI (6 * t + 6)))]) [3, 4, 5, 6, 0] rfl
              refine W.widen (k := 85 + (t + 1)) (n := 1246 + 6 * (t + 1)) (by omega) (by omega) ?_
              exact ih (t + 1) zG zO zX zY zA zB zM zI zL zK zN (nI 1) zQ _ _ L ls (by omega) hP hD hSh hR hS (by first | exact hl | simpa [Nat.mul_add] using hl)
          · by_cases hs : (zG j).1 = 3 ∧ (zG j).2 = 5
            · obtain ⟨kc, hkc, hci, hco⟩ := hR.2.1 j hj (by omega)
              refine lv_aload_n hx hb d_La_law_757 rfl (lv_at hl 1 rfl) ?_
              refine lv_aload_n hx hb d_La_law_758 rfl (lv_at hl 0 rfl) ?_
              refine lv_iload hx hb d_La_law_759 (lv_at hl 4 rfl) ?_
              refine lv_iconst (v := nI 1) hx hb d_La_law_761 (by decide +kernel) ?_
              refine lv_iadd hx hb d_La_law_762 ?_
              refine aw_ti (nI_add (6 * t) 1) ?_
              refine va_sld hx hb hX hbl hbA hS (i := (nI ((6 * t) + 1))) (vp_in_nI (by omega) (by omega)) d_La_law_763 ?_
              refine aw_ti (y := nI j) (by rw [nI_clamp (by omega)]; exact hc0.symm) ?_
              refine lv_aload_n hx hb d_La_law_764 rfl (lv_at hl 0 rfl) ?_
              refine lv_iload hx hb d_La_law_765 (lv_at hl 4 rfl) ?_
              refine lv_iconst (v := nI 2) hx hb d_La_law_767 (by decide +kernel) ?_
              refine lv_iadd hx hb d_La_law_768 ?_
              refine aw_ti (nI_add (6 * t) 2) ?_
              refine va_sld hx hb hX hbl hbA hS (i := (nI ((6 * t) + 2))) (vp_in_nI (by omega) (by omega)) d_La_law_769 ?_
              refine aw_ti (y := nI k) (by rw [nI_clamp (by omega)]; exact hfr.symm) ?_
              refine lv_aload_n hx hb d_La_law_770 rfl (lv_at hl 0 rfl) ?_
              refine lv_iload hx hb d_La_law_771 (lv_at hl 4 rfl) ?_
              refine lv_iconst (v := nI 3) hx hb d_La_law_773 (by decide +kernel) ?_
              refine lv_iadd hx hb d_La_law_774 ?_
              refine aw_ti (nI_add (6 * t) 3) ?_
              refine va_sld hx hb hX hbl hbA hS (i := (nI ((6 * t) + 3))) (vp_in_nI (by omega) (by omega)) d_La_law_775 ?_
              refine aw_ti (y := nI 0) (by rw [nI_clamp (by omega)]; exact hm0.symm) ?_
              refine lv_aload_n hx hb d_La_law_776 rfl (lv_at hl 3 rfl) ?_
              refine va_calli (vx_runSW (As := [.ref (aw_r ad 0), .int (nI j), .int (nI k), .int (nI 0), .ref (aw_o ad)]) (rest := []) ⟨hx, hb, hml, hown, hG⟩ (k_La_take10V l hst D g ad N0 zG zO zX zY zA zB zM zI zL zK zN zF zQ j (nI k) hj (by omega)) (aw_wW 5 hG gw_8_40 gw_8_38 gw_0_0 gw_8_39 rfl rfl hd_La_take ⟨Nat.le_of_ble_eq_true rfl, Nat.le_of_ble_eq_true rfl⟩) (ag_qS hP hD hSh hU hS) rfl rfl hl.1 rfl (lv_room (Nat.le_of_ble_eq_true rfl)) d_La_law_777 ⟨by omega, by omega⟩) hS (fun _ _ h => h) (fun _ h => h) ?_
              clear hP hD hSh hS
              intro x421 u8 t8 H locs ht _ ex421 hB _ _ hS
              obtain ⟨L, hP, hD, hSh⟩ := hB
              rw [ht] at hP
              clear ht
              subst ex421
              obtain ⟨zY422, ezY422⟩ : ∃ z : Nat → Nat → Int32, v_La_take10V_zY zY j = z := ⟨_, rfl⟩
              rw [ezY422] at hSh
              obtain ⟨zQ423, ezQ423⟩ : ∃ z : Int64, v_La_take10V_zQ zY j = z := ⟨_, rfl⟩
              rw [ezQ423] at hSh
              refine lv_istore hx hb d_La_law_780 hl (by decide) rfl (fun ls hl => ?_)
              have hl : lv_has ls 8 [(5, .int (nI 0)), (0, .ref b), (1, .ref (aw_r ad 0)), (2, .ref (aw_m ad 0)), (3, .ref (aw_o ad)), (4, .int (nI (6 * t)))] := hl
              refine lv_aload_n hx hb d_La_law_782 rfl (lv_at hl 3 rfl) ?_
              refine lv_aload_n hx hb d_La_law_783 rfl (lv_at hl 1 rfl) ?_
              refine lv_iload hx hb d_La_law_784 (lv_at hl 5 rfl) ?_
              refine lv_iconst (v := nI 1) hx hb d_La_law_786 (by decide +kernel) ?_
              refine lv_iadd hx hb d_La_law_787 ?_
              refine aw_ti (nI_add (6 * t) 1) ?_
              refine va_sld hx hb hX hbl hbA hS (i := (nI ((6 * t) + 1))) (vp_in_nI (by omega) (by omega)) d_La_law_788 ?_
              refine aw_ti (y := nI j) (by rw [nI_clamp (by omega)]; exact hc0.symm) ?_
              refine lv_aload_n hx hb d_La_law_789 rfl (lv_at hl 1 rfl) ?_
              refine lv_iload hx hb d_La_law_790 (lv_at hl 5 rfl) ?_
              refine lv_iconst (v := nI 2) hx hb d_La_law_792 (by decide +kernel) ?_
              refine lv_iadd hx hb d_La_law_793 ?_
              refine aw_ti (nI_add (6 * t) 2) ?_
              refine va_sld hx hb hX hbl hbA hS (i := (nI ((6 * t) + 2))) (vp_in_nI (by omega) (by omega)) d_La_law_794 ?_
              refine aw_ti (y := nI k) (by rw [nI_clamp (by omega)]; exact hfr.symm) ?_
              refine lv_aload_n hx hb d_La_law_795 rfl (lv_at hl 1 rfl) ?_
              refine lv_iload hx hb d_La_law_796 (lv_at hl 5 rfl) ?_
              refine lv_iconst (v := nI 3) hx hb d_La_law_798 (by decide +kernel) ?_
              refine lv_iadd hx hb d_La_law_799 ?_
              refine aw_ti (nI_add (6 * t) 3) ?_
              refine va_sld hx hb hX hbl hbA hS (i := (nI ((6 * t) + 3))) (vp_in_nI (by omega) (by omega)) d_La_law_800 ?_
              refine aw_ti (y := nI 0) (by rw [nI_clamp (by omega)]; exact hm0.symm) ?_
              obtain ⟨_, he424⟩ := zr_M0 hSh
              refine va_calli (va_runV (As := [.int (nI j), .int (nI k), .int (nI 0)]) (rest := []) ⟨hx, hb, hml, hown, hG⟩ (k_Mo_take1V l D g ad N0 zG zO zX zY422 zA zB zM zI zL zK zN zF zQ423 j kc k 0 hj (by omega) (by omega) hkc hci) (aw_wV 3 hG gw_12_49 gw_12_46 gw_0_10 gw_12_47 gw_12_48 rfl rfl hd_Mo_take ⟨Nat.le_of_ble_eq_true rfl, Nat.le_of_ble_eq_true rfl⟩) (ag_qV (va_recv hK hP rfl he424) hP hD hSh hU hS) rfl rfl hl.1 rfl (lv_room (Nat.le_of_ble_eq_true rfl)) d_La_law_801 ⟨by omega, by omega⟩) hS (fun _ _ h => h) (fun _ h => h) ?_
              clear hP hD hSh hS he424
              intro x425 u8 t8 H locs ht _ ex425 hB _ _ hS
              obtain ⟨L, hP, hD, hSh⟩ := hB
              rw [ht] at hP
              clear ht
              obtain ⟨zI426, ezI426⟩ : ∃ z : Nat → Nat → Int32, v_Mo_take1V_zI zI zL j kc k 0 = z := ⟨_, rfl⟩
              rw [ezI426] at hSh
              obtain ⟨zL427, ezL427⟩ : ∃ z : Nat → Nat → Int64, v_Mo_take1V_zL zI zL j kc k 0 = z := ⟨_, rfl⟩
              rw [ezL427] at hSh
              have ex425 := ex425.symm
              refine lv_istore hx hb d_La_law_804 hl (by decide) rfl (fun ls hl => ?_)
              have hl : lv_has ls 8 [(6, .int x425), (5, .int (nI 0)), (0, .ref b), (1, .ref (aw_r ad 0)), (2, .ref (aw_m ad 0)), (3, .ref (aw_o ad)), (4, .int (nI (6 * t)))] := hl
              refine lv_goto (tgt := 837) hx hb d_La_law_806 (by decide) ?_
              refine lv_iinc (k := 6) (v := nI (6 * t + 6)) hx hb d_La_law_837 hl rfl (aw_inc (6 * t) 6 6 (by decide +kernel)) (by decide) rfl (fun ls hl => ?_)
              have hl : lv_has ls 8 [(4, .int (nI (6 * t + 6))), (6, .int x425), (5, .int (nI 0)), (0, .ref b), (1, .ref (aw_r ad 0)), (2, .ref (aw_m ad 0)), (3, .ref (aw_o ad))] := hl
              refine lv_goto (tgt := 23) hx hb d_La_law_840 (by decide) ?_
              have hl := lv_sub hl (l' := [(0, .ref b), (1, .ref (aw_r ad 0)), (2, .ref (aw_m ad 0)), (3, .ref (aw_o ad)), (4, .int (nI (6 * t + 6)))]) [3, 4, 5, 6, 0] rfl
              refine W.widen (k := 85 + (t + 1)) (n := 1246 + 6 * (t + 1)) (by omega) (by omega) ?_
              have hR : az_R zG zO zX zY422 zA zB zM zI426 zL427 := by
                subst ex425 ezL427 ezI426 ezQ423 ezY422
                exact r_take10_1 hR hj hs hk hkc hci hco
              exact ih (t + 1) zG zO zX zY422 zA zB zM zI426 zL427 (nI kc) (az_wn kc) (nI 0) zQ423 _ _ L ls (by omega) hP hD hSh hR hS (by first | exact hl | simpa [Nat.mul_add] using hl)
            · refine lv_aload_n hx hb d_La_law_757 rfl (lv_at hl 1 rfl) ?_
              refine lv_aload_n hx hb d_La_law_758 rfl (lv_at hl 0 rfl) ?_
              refine lv_iload hx hb d_La_law_759 (lv_at hl 4 rfl) ?_
              refine lv_iconst (v := nI 1) hx hb d_La_law_761 (by decide +kernel) ?_
              refine lv_iadd hx hb d_La_law_762 ?_
              refine aw_ti (nI_add (6 * t) 1) ?_
              refine va_sld hx hb hX hbl hbA hS (i := (nI ((6 * t) + 1))) (vp_in_nI (by omega) (by omega)) d_La_law_763 ?_
              refine aw_ti (y := nI j) (by rw [nI_clamp (by omega)]; exact hc0.symm) ?_
              refine lv_aload_n hx hb d_La_law_764 rfl (lv_at hl 0 rfl) ?_
              refine lv_iload hx hb d_La_law_765 (lv_at hl 4 rfl) ?_
              refine lv_iconst (v := nI 2) hx hb d_La_law_767 (by decide +kernel) ?_
              refine lv_iadd hx hb d_La_law_768 ?_
              refine aw_ti (nI_add (6 * t) 2) ?_
              refine va_sld hx hb hX hbl hbA hS (i := (nI ((6 * t) + 2))) (vp_in_nI (by omega) (by omega)) d_La_law_769 ?_
              refine aw_ti (y := nI k) (by rw [nI_clamp (by omega)]; exact hfr.symm) ?_
              refine lv_aload_n hx hb d_La_law_770 rfl (lv_at hl 0 rfl) ?_
              refine lv_iload hx hb d_La_law_771 (lv_at hl 4 rfl) ?_
              refine lv_iconst (v := nI 3) hx hb d_La_law_773 (by decide +kernel) ?_
              refine lv_iadd hx hb d_La_law_774 ?_
              refine aw_ti (nI_add (6 * t) 3) ?_
              refine va_sld hx hb hX hbl hbA hS (i := (nI ((6 * t) + 3))) (vp_in_nI (by omega) (by omega)) d_La_law_775 ?_
              refine aw_ti (y := nI 0) (by rw [nI_clamp (by omega)]; exact hm0.symm) ?_
              refine lv_aload_n hx hb d_La_law_776 rfl (lv_at hl 3 rfl) ?_
              refine va_calli (vx_runSW (As := [.ref (aw_r ad 0), .int (nI j), .int (nI k), .int (nI 0), .ref (aw_o ad)]) (rest := []) ⟨hx, hb, hml, hown, hG⟩ (k_La_takeXs0V l hst D g ad N0 zG zO zX zY zA zB zM zI zL zK zN zF zQ j (nI k) hj (by omega)) (aw_wW 5 hG gw_8_40 gw_8_38 gw_0_0 gw_8_39 rfl rfl hd_La_take ⟨Nat.le_of_ble_eq_true rfl, Nat.le_of_ble_eq_true rfl⟩) (ag_qS hP hD hSh hU hS) rfl rfl hl.1 rfl (lv_room (Nat.le_of_ble_eq_true rfl)) d_La_law_777 ⟨by omega, by omega⟩) hS (fun _ _ h => h) (fun _ h => h) ?_
              clear hP hD hSh hS
              intro x428 u8 t8 H locs ht _ ex428 hB _ _ hS
              obtain ⟨L, hP, hD, hSh⟩ := hB
              rw [ht] at hP
              clear ht
              subst ex428
              refine lv_istore hx hb d_La_law_780 hl (by decide) rfl (fun ls hl => ?_)
              have hl : lv_has ls 8 [(5, .int (nI 2)), (0, .ref b), (1, .ref (aw_r ad 0)), (2, .ref (aw_m ad 0)), (3, .ref (aw_o ad)), (4, .int (nI (6 * t)))] := hl
              refine lv_aload_n hx hb d_La_law_782 rfl (lv_at hl 3 rfl) ?_
              refine lv_aload_n hx hb d_La_law_783 rfl (lv_at hl 1 rfl) ?_
              refine lv_iload hx hb d_La_law_784 (lv_at hl 5 rfl) ?_
              refine lv_iconst (v := nI 1) hx hb d_La_law_786 (by decide +kernel) ?_
              refine lv_iadd hx hb d_La_law_787 ?_
              refine aw_ti (nI_add (6 * t) 1) ?_
              refine va_sld hx hb hX hbl hbA hS (i := (nI ((6 * t) + 1))) (vp_in_nI (by omega) (by omega)) d_La_law_788 ?_
              refine aw_ti (y := nI j) (by rw [nI_clamp (by omega)]; exact hc0.symm) ?_
              refine lv_aload_n hx hb d_La_law_789 rfl (lv_at hl 1 rfl) ?_
              refine lv_iload hx hb d_La_law_790 (lv_at hl 5 rfl) ?_
              refine lv_iconst (v := nI 2) hx hb d_La_law_792 (by decide +kernel) ?_
              refine lv_iadd hx hb d_La_law_793 ?_
              refine aw_ti (nI_add (6 * t) 2) ?_
              refine va_sld hx hb hX hbl hbA hS (i := (nI ((6 * t) + 2))) (vp_in_nI (by omega) (by omega)) d_La_law_794 ?_
              refine aw_ti (y := nI k) (by rw [nI_clamp (by omega)]; exact hfr.symm) ?_
              refine lv_aload_n hx hb d_La_law_795 rfl (lv_at hl 1 rfl) ?_
              refine lv_iload hx hb d_La_law_796 (lv_at hl 5 rfl) ?_
              refine lv_iconst (v := nI 3) hx hb d_La_law_798 (by decide +kernel) ?_
              refine lv_iadd hx hb d_La_law_799 ?_
              refine aw_ti (nI_add (6 * t) 3) ?_
              refine va_sld hx hb hX hbl hbA hS (i := (nI ((6 * t) + 3))) (vp_in_nI (by omega) (by omega)) d_La_law_800 ?_
              refine aw_ti (y := nI 0) (by rw [nI_clamp (by omega)]; exact hm0.symm) ?_
              obtain ⟨_, he429⟩ := zr_M0 hSh
              refine va_calli (va_runV (As := [.int (nI j), .int (nI k), .int (nI 0)]) (rest := []) ⟨hx, hb, hml, hown, hG⟩ (k_Mo_takeXsV l D g ad N0 zG zO zX zY zA zB zM zI zL zK zN zF zQ j k 0 hj (by omega) (by omega)) (aw_wV 3 hG gw_12_49 gw_12_46 gw_0_10 gw_12_47 gw_12_48 rfl rfl hd_Mo_take ⟨Nat.le_of_ble_eq_true rfl, Nat.le_of_ble_eq_true rfl⟩) (ag_qV (va_recv hK hP rfl he429) hP hD hSh hU hS) rfl rfl hl.1 rfl (lv_room (Nat.le_of_ble_eq_true rfl)) d_La_law_801 ⟨by omega, by omega⟩) hS (fun _ _ h => h) (fun _ h => h) ?_
              clear hP hD hSh hS he429
              intro x430 u8 t8 H locs ht _ ex430 hB _ _ hS
              obtain ⟨L, hP, hD, hSh⟩ := hB
              rw [ht] at hP
              clear ht
              have ex430 := ex430.symm
              refine lv_istore hx hb d_La_law_804 hl (by decide) rfl (fun ls hl => ?_)
              have hl : lv_has ls 8 [(6, .int x430), (5, .int (nI 2)), (0, .ref b), (1, .ref (aw_r ad 0)), (2, .ref (aw_m ad 0)), (3, .ref (aw_o ad)), (4, .int (nI (6 * t)))] := hl
              refine lv_goto (tgt := 837) hx hb d_La_law_806 (by decide) ?_
              refine lv_iinc (k := 6) (v := nI (6 * t + 6)) hx hb d_La_law_837 hl rfl (aw_inc (6 * t) 6 6 (by decide +kernel)) (by decide) rfl (fun ls hl => ?_)
              have hl : lv_has ls 8 [(4, .int (nI (6 * t + 6))), (6, .int x430), (5, .int (nI 2)), (0, .ref b), (1, .ref (aw_r ad 0)), (2, .ref (aw_m ad 0)), (3, .ref (aw_o ad))] := hl
              refine lv_goto (tgt := 23) hx hb d_La_law_840 (by decide) ?_
              have hl := lv_sub hl (l' := [(0, .ref b), (1, .ref (aw_r ad 0)), (2, .ref (aw_m ad 0)), (3, .ref (aw_o ad)), (4, .int (nI (6 * t + 6)))]) [3, 4, 5, 6, 0] rfl
              refine W.widen (k := 85 + (t + 1)) (n := 1246 + 6 * (t + 1)) (by omega) (by omega) ?_
              exact ih (t + 1) zG zO zX zY zA zB zM zI zL zK zN (nI 2) zQ _ _ L ls (by omega) hP hD hSh hR hS (by first | exact hl | simpa [Nat.mul_add] using hl)
        · by_cases hs : (zG j).1 = 3 ∧ (zG j).2 = 5
          · obtain ⟨kc, hkc, hci, hco⟩ := hR.2.1 j hj (by omega)
            refine lv_aload_n hx hb d_La_law_757 rfl (lv_at hl 1 rfl) ?_
            refine lv_aload_n hx hb d_La_law_758 rfl (lv_at hl 0 rfl) ?_
            refine lv_iload hx hb d_La_law_759 (lv_at hl 4 rfl) ?_
            refine lv_iconst (v := nI 1) hx hb d_La_law_761 (by decide +kernel) ?_
            refine lv_iadd hx hb d_La_law_762 ?_
            refine aw_ti (nI_add (6 * t) 1) ?_
            refine va_sld hx hb hX hbl hbA hS (i := (nI ((6 * t) + 1))) (vp_in_nI (by omega) (by omega)) d_La_law_763 ?_
            refine aw_ti (y := nI j) (by rw [nI_clamp (by omega)]; exact hc0.symm) ?_
            refine lv_aload_n hx hb d_La_law_764 rfl (lv_at hl 0 rfl) ?_
            refine lv_iload hx hb d_La_law_765 (lv_at hl 4 rfl) ?_
            refine lv_iconst (v := nI 2) hx hb d_La_law_767 (by decide +kernel) ?_
            refine lv_iadd hx hb d_La_law_768 ?_
            refine aw_ti (nI_add (6 * t) 2) ?_
            refine va_sld hx hb hX hbl hbA hS (i := (nI ((6 * t) + 2))) (vp_in_nI (by omega) (by omega)) d_La_law_769 ?_
            refine aw_ti (y := nI k) (by rw [nI_clamp (by omega)]; exact hfr.symm) ?_
            refine lv_aload_n hx hb d_La_law_770 rfl (lv_at hl 0 rfl) ?_
            refine lv_iload hx hb d_La_law_771 (lv_at hl 4 rfl) ?_
            refine lv_iconst (v := nI 3) hx hb d_La_law_773 (by decide +kernel) ?_
            refine lv_iadd hx hb d_La_law_774 ?_
            refine aw_ti (nI_add (6 * t) 3) ?_
            refine va_sld hx hb hX hbl hbA hS (i := (nI ((6 * t) + 3))) (vp_in_nI (by omega) (by omega)) d_La_law_775 ?_
            refine aw_ti (y := nI mm) (by rw [nI_clamp (by omega)]; exact hm0.symm) ?_
            refine lv_aload_n hx hb d_La_law_776 rfl (lv_at hl 3 rfl) ?_
            refine va_calli (vx_runSW (As := [.ref (aw_r ad 0), .int (nI j), .int (nI k), .int (nI mm), .ref (aw_o ad)]) (rest := []) ⟨hx, hb, hml, hown, hG⟩ (k_La_take11V l hst D g ad N0 zG zO zX zY zA zB zM zI zL zK zN zF zQ j k mm hj (by omega) (by omega) (by omega)) (aw_wW 5 hG gw_8_40 gw_8_38 gw_0_0 gw_8_39 rfl rfl hd_La_take ⟨Nat.le_of_ble_eq_true rfl, Nat.le_of_ble_eq_true rfl⟩) (ag_qS hP hD hSh hU hS) rfl rfl hl.1 rfl (lv_room (Nat.le_of_ble_eq_true rfl)) d_La_law_777 ⟨by omega, by omega⟩) hS (fun _ _ h => h) (fun _ h => h) ?_
            clear hP hD hSh hS
            intro x431 u8 t8 H locs ht _ ex431 hB _ _ hS
            obtain ⟨L, hP, hD, hSh⟩ := hB
            rw [ht] at hP
            clear ht
            subst ex431
            obtain ⟨zX432, ezX432⟩ : ∃ z : Nat → Nat → Int64, v_La_take11V_zX zO zX zY zA zB j k mm = z := ⟨_, rfl⟩
            rw [ezX432] at hSh
            obtain ⟨zY433, ezY433⟩ : ∃ z : Nat → Nat → Int32, v_La_take11V_zY zO zX zY zA zB j k mm = z := ⟨_, rfl⟩
            rw [ezY433] at hSh
            obtain ⟨zQ434, ezQ434⟩ : ∃ z : Int64, v_La_take11V_zQ zO zX zY zA zB j k mm = z := ⟨_, rfl⟩
            rw [ezQ434] at hSh
            refine lv_istore hx hb d_La_law_780 hl (by decide) rfl (fun ls hl => ?_)
            have hl : lv_has ls 8 [(5, .int (nI 0)), (0, .ref b), (1, .ref (aw_r ad 0)), (2, .ref (aw_m ad 0)), (3, .ref (aw_o ad)), (4, .int (nI (6 * t)))] := hl
            refine lv_aload_n hx hb d_La_law_782 rfl (lv_at hl 3 rfl) ?_
            refine lv_aload_n hx hb d_La_law_783 rfl (lv_at hl 1 rfl) ?_
            refine lv_iload hx hb d_La_law_784 (lv_at hl 5 rfl) ?_
            refine lv_iconst (v := nI 1) hx hb d_La_law_786 (by decide +kernel) ?_
            refine lv_iadd hx hb d_La_law_787 ?_
            refine aw_ti (nI_add (6 * t) 1) ?_
            refine va_sld hx hb hX hbl hbA hS (i := (nI ((6 * t) + 1))) (vp_in_nI (by omega) (by omega)) d_La_law_788 ?_
            refine aw_ti (y := nI j) (by rw [nI_clamp (by omega)]; exact hc0.symm) ?_
            refine lv_aload_n hx hb d_La_law_789 rfl (lv_at hl 1 rfl) ?_
            refine lv_iload hx hb d_La_law_790 (lv_at hl 5 rfl) ?_
            refine lv_iconst (v := nI 2) hx hb d_La_law_792 (by decide +kernel) ?_
            refine lv_iadd hx hb d_La_law_793 ?_
            refine aw_ti (nI_add (6 * t) 2) ?_
            refine va_sld hx hb hX hbl hbA hS (i := (nI ((6 * t) + 2))) (vp_in_nI (by omega) (by omega)) d_La_law_794 ?_
            refine aw_ti (y := nI k) (by rw [nI_clamp (by omega)]; exact hfr.symm) ?_
            refine lv_aload_n hx hb d_La_law_795 rfl (lv_at hl 1 rfl) ?_
            refine lv_iload hx hb d_La_law_796 (lv_at hl 5 rfl) ?_
            refine lv_iconst (v := nI 3) hx hb d_La_law_798 (by decide +kernel) ?_
            refine lv_iadd hx hb d_La_law_799 ?_
            refine aw_ti (nI_add (6 * t) 3) ?_
            refine va_sld hx hb hX hbl hbA hS (i := (nI ((6 * t) + 3))) (vp_in_nI (by omega) (by omega)) d_La_law_800 ?_
            refine aw_ti (y := nI mm) (by rw [nI_clamp (by omega)]; exact hm0.symm) ?_
            obtain ⟨_, he435⟩ := zr_M0 hSh
            refine va_calli (va_runV (As := [.int (nI j), .int (nI k), .int (nI mm)]) (rest := []) ⟨hx, hb, hml, hown, hG⟩ (k_Mo_take1V l D g ad N0 zG zO zX432 zY433 zA zB zM zI zL zK zN zF zQ434 j kc k mm hj (by omega) (by omega) hkc hci) (aw_wV 3 hG gw_12_49 gw_12_46 gw_0_10 gw_12_47 gw_12_48 rfl rfl hd_Mo_take ⟨Nat.le_of_ble_eq_true rfl, Nat.le_of_ble_eq_true rfl⟩) (ag_qV (va_recv hK hP rfl he435) hP hD hSh hU hS) rfl rfl hl.1 rfl (lv_room (Nat.le_of_ble_eq_true rfl)) d_La_law_801 ⟨by omega, by omega⟩) hS (fun _ _ h => h) (fun _ h => h) ?_
            clear hP hD hSh hS he435
            intro x436 u8 t8 H locs ht _ ex436 hB _ _ hS
            obtain ⟨L, hP, hD, hSh⟩ := hB
            rw [ht] at hP
            clear ht
            obtain ⟨zI437, ezI437⟩ : ∃ z : Nat → Nat → Int32, v_Mo_take1V_zI zI zL j kc k mm = z := ⟨_, rfl⟩
            rw [ezI437] at hSh
            obtain ⟨zL438, ezL438⟩ : ∃ z : Nat → Nat → Int64, v_Mo_take1V_zL zI zL j kc k mm = z := ⟨_, rfl⟩
            rw [ezL438] at hSh
            have ex436 := ex436.symm
            refine lv_istore hx hb d_La_law_804 hl (by decide) rfl (fun ls hl => ?_)
            have hl : lv_has ls 8 [(6, .int x436), (5, .int (nI 0)), (0, .ref b), (1, .ref (aw_r ad 0)), (2, .ref (aw_m ad 0)), (3, .ref (aw_o ad)), (4, .int (nI (6 * t)))] := hl
            refine lv_goto (tgt := 837) hx hb d_La_law_806 (by decide) ?_
            refine lv_iinc (k := 6) (v := nI (6 * t + 6)) hx hb d_La_law_837 hl rfl (aw_inc (6 * t) 6 6 (by decide +kernel)) (by decide) rfl (fun ls hl => ?_)
            have hl : lv_has ls 8 [(4, .int (nI (6 * t + 6))), (6, .int x436), (5, .int (nI 0)), (0, .ref b), (1, .ref (aw_r ad 0)), (2, .ref (aw_m ad 0)), (3, .ref (aw_o ad))] := hl
            refine lv_goto (tgt := 23) hx hb d_La_law_840 (by decide) ?_
            have hl := lv_sub hl (l' := [(0, .ref b), (1, .ref (aw_r ad 0)), (2, .ref (aw_m ad 0)), (3, .ref (aw_o ad)), (4, .int (nI (6 * t + 6)))]) [3, 4, 5, 6, 0] rfl
            refine W.widen (k := 85 + (t + 1)) (n := 1246 + 6 * (t + 1)) (by omega) (by omega) ?_
            have hR : az_R zG zO zX432 zY433 zA zB zM zI437 zL438 := by
              subst ex436 ezL438 ezI437 ezQ434 ezY433 ezX432
              exact r_take11_1 hR hj hs h0 hk hkc hci hco
            exact ih (t + 1) zG zO zX432 zY433 zA zB zM zI437 zL438 (nI kc) (az_wn kc) (nI 0) zQ434 _ _ L ls (by omega) hP hD hSh hR hS (by first | exact hl | simpa [Nat.mul_add] using hl)
          · refine lv_aload_n hx hb d_La_law_757 rfl (lv_at hl 1 rfl) ?_
            refine lv_aload_n hx hb d_La_law_758 rfl (lv_at hl 0 rfl) ?_
            refine lv_iload hx hb d_La_law_759 (lv_at hl 4 rfl) ?_
            refine lv_iconst (v := nI 1) hx hb d_La_law_761 (by decide +kernel) ?_
            refine lv_iadd hx hb d_La_law_762 ?_
            refine aw_ti (nI_add (6 * t) 1) ?_
            refine va_sld hx hb hX hbl hbA hS (i := (nI ((6 * t) + 1))) (vp_in_nI (by omega) (by omega)) d_La_law_763 ?_
            refine aw_ti (y := nI j) (by rw [nI_clamp (by omega)]; exact hc0.symm) ?_
            refine lv_aload_n hx hb d_La_law_764 rfl (lv_at hl 0 rfl) ?_
            refine lv_iload hx hb d_La_law_765 (lv_at hl 4 rfl) ?_
            refine lv_iconst (v := nI 2) hx hb d_La_law_767 (by decide +kernel) ?_
            refine lv_iadd hx hb d_La_law_768 ?_
            refine aw_ti (nI_add (6 * t) 2) ?_
            refine va_sld hx hb hX hbl hbA hS (i := (nI ((6 * t) + 2))) (vp_in_nI (by omega) (by omega)) d_La_law_769 ?_
            refine aw_ti (y := nI k) (by rw [nI_clamp (by omega)]; exact hfr.symm) ?_
            refine lv_aload_n hx hb d_La_law_770 rfl (lv_at hl 0 rfl) ?_
            refine lv_iload hx hb d_La_law_771 (lv_at hl 4 rfl) ?_
            refine lv_iconst (v := nI 3) hx hb d_La_law_773 (by decide +kernel) ?_
            refine lv_iadd hx hb d_La_law_774 ?_
            refine aw_ti (nI_add (6 * t) 3) ?_
            refine va_sld hx hb hX hbl hbA hS (i := (nI ((6 * t) + 3))) (vp_in_nI (by omega) (by omega)) d_La_law_775 ?_
            refine aw_ti (y := nI mm) (by rw [nI_clamp (by omega)]; exact hm0.symm) ?_
            refine lv_aload_n hx hb d_La_law_776 rfl (lv_at hl 3 rfl) ?_
            refine va_calli (vx_runSW (As := [.ref (aw_r ad 0), .int (nI j), .int (nI k), .int (nI mm), .ref (aw_o ad)]) (rest := []) ⟨hx, hb, hml, hown, hG⟩ (k_La_takeXs1V l hst D g ad N0 zG zO zX zY zA zB zM zI zL zK zN zF zQ j k mm hj (by omega) (by omega) (by omega)) (aw_wW 5 hG gw_8_40 gw_8_38 gw_0_0 gw_8_39 rfl rfl hd_La_take ⟨Nat.le_of_ble_eq_true rfl, Nat.le_of_ble_eq_true rfl⟩) (ag_qS hP hD hSh hU hS) rfl rfl hl.1 rfl (lv_room (Nat.le_of_ble_eq_true rfl)) d_La_law_777 ⟨by omega, by omega⟩) hS (fun _ _ h => h) (fun _ h => h) ?_
            clear hP hD hSh hS
            intro x439 u8 t8 H locs ht _ ex439 hB _ _ hS
            obtain ⟨L, hP, hD, hSh⟩ := hB
            rw [ht] at hP
            clear ht
            subst ex439
            refine lv_istore hx hb d_La_law_780 hl (by decide) rfl (fun ls hl => ?_)
            have hl : lv_has ls 8 [(5, .int (nI 2)), (0, .ref b), (1, .ref (aw_r ad 0)), (2, .ref (aw_m ad 0)), (3, .ref (aw_o ad)), (4, .int (nI (6 * t)))] := hl
            refine lv_aload_n hx hb d_La_law_782 rfl (lv_at hl 3 rfl) ?_
            refine lv_aload_n hx hb d_La_law_783 rfl (lv_at hl 1 rfl) ?_
            refine lv_iload hx hb d_La_law_784 (lv_at hl 5 rfl) ?_
            refine lv_iconst (v := nI 1) hx hb d_La_law_786 (by decide +kernel) ?_
            refine lv_iadd hx hb d_La_law_787 ?_
            refine aw_ti (nI_add (6 * t) 1) ?_
            refine va_sld hx hb hX hbl hbA hS (i := (nI ((6 * t) + 1))) (vp_in_nI (by omega) (by omega)) d_La_law_788 ?_
            refine aw_ti (y := nI j) (by rw [nI_clamp (by omega)]; exact hc0.symm) ?_
            refine lv_aload_n hx hb d_La_law_789 rfl (lv_at hl 1 rfl) ?_
            refine lv_iload hx hb d_La_law_790 (lv_at hl 5 rfl) ?_
            refine lv_iconst (v := nI 2) hx hb d_La_law_792 (by decide +kernel) ?_
            refine lv_iadd hx hb d_La_law_793 ?_
            refine aw_ti (nI_add (6 * t) 2) ?_
            refine va_sld hx hb hX hbl hbA hS (i := (nI ((6 * t) + 2))) (vp_in_nI (by omega) (by omega)) d_La_law_794 ?_
            refine aw_ti (y := nI k) (by rw [nI_clamp (by omega)]; exact hfr.symm) ?_
            refine lv_aload_n hx hb d_La_law_795 rfl (lv_at hl 1 rfl) ?_
            refine lv_iload hx hb d_La_law_796 (lv_at hl 5 rfl) ?_
            refine lv_iconst (v := nI 3) hx hb d_La_law_798 (by decide +kernel) ?_
            refine lv_iadd hx hb d_La_law_799 ?_
            refine aw_ti (nI_add (6 * t) 3) ?_
            refine va_sld hx hb hX hbl hbA hS (i := (nI ((6 * t) + 3))) (vp_in_nI (by omega) (by omega)) d_La_law_800 ?_
            refine aw_ti (y := nI mm) (by rw [nI_clamp (by omega)]; exact hm0.symm) ?_
            obtain ⟨_, he440⟩ := zr_M0 hSh
            refine va_calli (va_runV (As := [.int (nI j), .int (nI k), .int (nI mm)]) (rest := []) ⟨hx, hb, hml, hown, hG⟩ (k_Mo_takeXsV l D g ad N0 zG zO zX zY zA zB zM zI zL zK zN zF zQ j k mm hj (by omega) (by omega)) (aw_wV 3 hG gw_12_49 gw_12_46 gw_0_10 gw_12_47 gw_12_48 rfl rfl hd_Mo_take ⟨Nat.le_of_ble_eq_true rfl, Nat.le_of_ble_eq_true rfl⟩) (ag_qV (va_recv hK hP rfl he440) hP hD hSh hU hS) rfl rfl hl.1 rfl (lv_room (Nat.le_of_ble_eq_true rfl)) d_La_law_801 ⟨by omega, by omega⟩) hS (fun _ _ h => h) (fun _ h => h) ?_
            clear hP hD hSh hS he440
            intro x441 u8 t8 H locs ht _ ex441 hB _ _ hS
            obtain ⟨L, hP, hD, hSh⟩ := hB
            rw [ht] at hP
            clear ht
            have ex441 := ex441.symm
            refine lv_istore hx hb d_La_law_804 hl (by decide) rfl (fun ls hl => ?_)
            have hl : lv_has ls 8 [(6, .int x441), (5, .int (nI 2)), (0, .ref b), (1, .ref (aw_r ad 0)), (2, .ref (aw_m ad 0)), (3, .ref (aw_o ad)), (4, .int (nI (6 * t)))] := hl
            refine lv_goto (tgt := 837) hx hb d_La_law_806 (by decide) ?_
            refine lv_iinc (k := 6) (v := nI (6 * t + 6)) hx hb d_La_law_837 hl rfl (aw_inc (6 * t) 6 6 (by decide +kernel)) (by decide) rfl (fun ls hl => ?_)
            have hl : lv_has ls 8 [(4, .int (nI (6 * t + 6))), (6, .int x441), (5, .int (nI 2)), (0, .ref b), (1, .ref (aw_r ad 0)), (2, .ref (aw_m ad 0)), (3, .ref (aw_o ad))] := hl
            refine lv_goto (tgt := 23) hx hb d_La_law_840 (by decide) ?_
            have hl := lv_sub hl (l' := [(0, .ref b), (1, .ref (aw_r ad 0)), (2, .ref (aw_m ad 0)), (3, .ref (aw_o ad)), (4, .int (nI (6 * t + 6)))]) [3, 4, 5, 6, 0] rfl
            refine W.widen (k := 85 + (t + 1)) (n := 1246 + 6 * (t + 1)) (by omega) (by omega) ?_
            exact ih (t + 1) zG zO zX zY zA zB zM zI zL zK zN (nI 2) zQ _ _ L ls (by omega) hP hD hSh hR hS (by first | exact hl | simpa [Nat.mul_add] using hl)
    · refine aw_ti (y := nI 12) (by rw [hs3]) ?_
      refine lv_tableIn (tgt := 809) (off := 769) hx hb d_La_law_40 (by decide +kernel) (by decide +kernel) (by decide +kernel) (by decide) ?_
      obtain ⟨c0, hc0⟩ : ∃ z : Int32, z = xs (6 * t + 1) := ⟨_, rfl⟩
      rcases aw_rng 4 (by decide) c0 with hc | ⟨j, hj, rfl⟩
      · refine lv_aload_n hx hb d_La_law_809 rfl (lv_at hl 1 rfl) ?_
        refine lv_aload_n hx hb d_La_law_810 rfl (lv_at hl 0 rfl) ?_
        refine lv_iload hx hb d_La_law_811 (lv_at hl 4 rfl) ?_
        refine lv_iconst (v := nI 1) hx hb d_La_law_813 (by decide +kernel) ?_
        refine lv_iadd hx hb d_La_law_814 ?_
        refine aw_ti (nI_add (6 * t) 1) ?_
        refine va_sld hx hb hX hbl hbA hS (i := (nI ((6 * t) + 1))) (vp_in_nI (by omega) (by omega)) d_La_law_815 ?_
        refine aw_ti (y := c0) (by rw [nI_clamp (by omega)]; exact hc0.symm) ?_
        refine lv_aload_n hx hb d_La_law_816 rfl (lv_at hl 3 rfl) ?_
        refine va_calli (vx_runSW (As := [.ref (aw_r ad 0), .int c0, .ref (aw_o ad)]) (rest := []) ⟨hx, hb, hml, hown, hG⟩ (k_La_tagXcV l hst D g ad N0 zG zO zX zY zA zB zM zI zL zK zN zF zQ c0 hc) (aw_wW 3 hG gw_9_2 gw_9_0 gw_0_0 gw_9_1 rfl rfl hd_La_tag ⟨Nat.le_of_ble_eq_true rfl, Nat.le_of_ble_eq_true rfl⟩) (ag_qS hP hD hSh hU hS) rfl rfl hl.1 rfl (lv_room (Nat.le_of_ble_eq_true rfl)) d_La_law_817 ⟨by omega, by omega⟩) hS (fun _ _ h => h) (fun _ h => h) ?_
        clear hP hD hSh hS
        intro x442 u8 t8 H locs ht _ ex442 hB _ _ hS
        obtain ⟨L, hP, hD, hSh⟩ := hB
        rw [ht] at hP
        clear ht
        subst ex442
        refine lv_istore hx hb d_La_law_820 hl (by decide) rfl (fun ls hl => ?_)
        have hl : lv_has ls 8 [(5, .int (nI 1)), (0, .ref b), (1, .ref (aw_r ad 0)), (2, .ref (aw_m ad 0)), (3, .ref (aw_o ad)), (4, .int (nI (6 * t)))] := hl
        refine lv_aload_n hx hb d_La_law_822 rfl (lv_at hl 3 rfl) ?_
        refine lv_aload_n hx hb d_La_law_823 rfl (lv_at hl 1 rfl) ?_
        refine lv_iload hx hb d_La_law_824 (lv_at hl 5 rfl) ?_
        refine lv_iconst (v := nI 1) hx hb d_La_law_826 (by decide +kernel) ?_
        refine lv_iadd hx hb d_La_law_827 ?_
        refine aw_ti (nI_add (6 * t) 1) ?_
        refine va_sld hx hb hX hbl hbA hS (i := (nI ((6 * t) + 1))) (vp_in_nI (by omega) (by omega)) d_La_law_828 ?_
        refine aw_ti (y := c0) (by rw [nI_clamp (by omega)]; exact hc0.symm) ?_
        obtain ⟨_, he443⟩ := zr_M0 hSh
        refine va_calll (va_runV (As := [.int c0]) (rest := []) ⟨hx, hb, hml, hown, hG⟩ (k_Mo_tagXcV l D g ad N0 zG zO zX zY zA zB zM zI zL zK zN zF zQ c0 hc) (aw_wV 1 hG gw_12_56 gw_12_53 gw_0_10 gw_12_54 gw_12_55 rfl rfl hd_Mo_tag ⟨Nat.le_of_ble_eq_true rfl, Nat.le_of_ble_eq_true rfl⟩) (ag_qV (va_recv hK hP rfl he443) hP hD hSh hU hS) rfl rfl hl.1 rfl (lv_room (Nat.le_of_ble_eq_true rfl)) d_La_law_829 ⟨by omega, by omega⟩) hS (fun _ _ h => h) (fun _ h => h) ?_
        clear hP hD hSh hS he443
        intro y444 u8 t8 H locs ht _ ey444 hB _ _ hS
        obtain ⟨L, hP, hD, hSh⟩ := hB
        rw [ht] at hP
        clear ht
        have ey444 := ey444.symm
        refine lv_lstore hx hb d_La_law_832 hl (by decide) rfl (fun ls hl => ?_)
        have hl : lv_has ls 8 [(6, .long y444), (5, .int (nI 1)), (0, .ref b), (1, .ref (aw_r ad 0)), (2, .ref (aw_m ad 0)), (3, .ref (aw_o ad)), (4, .int (nI (6 * t)))] := hl
        refine lv_goto (tgt := 837) hx hb d_La_law_834 (by decide) ?_
        refine lv_iinc (k := 6) (v := nI (6 * t + 6)) hx hb d_La_law_837 hl rfl (aw_inc (6 * t) 6 6 (by decide +kernel)) (by decide) rfl (fun ls hl => ?_)
        have hl : lv_has ls 8 [(4, .int (nI (6 * t + 6))), (6, .long y444), (5, .int (nI 1)), (0, .ref b), (1, .ref (aw_r ad 0)), (2, .ref (aw_m ad 0)), (3, .ref (aw_o ad))] := hl
        refine lv_goto (tgt := 23) hx hb d_La_law_840 (by decide) ?_
        have hl := lv_sub hl (l' := [(0, .ref b), (1, .ref (aw_r ad 0)), (2, .ref (aw_m ad 0)), (3, .ref (aw_o ad)), (4, .int (nI (6 * t + 6)))]) [3, 4, 5, 6, 0] rfl
        refine W.widen (k := 85 + (t + 1)) (n := 1246 + 6 * (t + 1)) (by omega) (by omega) ?_
        exact ih (t + 1) zG zO zX zY zA zB zM zI zL zK zN (nI 1) zQ _ _ L ls (by omega) hP hD hSh hR hS (by first | exact hl | simpa [Nat.mul_add] using hl)
      · have hgj := hSh.2.2.2.2.1 j hj
        have hq1 : (zM j).1 = (zG j).1 := by rw [hR.1 j hj]
        have hq2 : (zM j).2 = (zG j).2 := by rw [hR.1 j hj]
        by_cases hs : (zG j).1 = 3 ∧ (zG j).2 = 5
        · obtain ⟨kc, hkc, hci, hco⟩ := hR.2.1 j hj (by omega)
          refine lv_aload_n hx hb d_La_law_809 rfl (lv_at hl 1 rfl) ?_
          refine lv_aload_n hx hb d_La_law_810 rfl (lv_at hl 0 rfl) ?_
          refine lv_iload hx hb d_La_law_811 (lv_at hl 4 rfl) ?_
          refine lv_iconst (v := nI 1) hx hb d_La_law_813 (by decide +kernel) ?_
          refine lv_iadd hx hb d_La_law_814 ?_
          refine aw_ti (nI_add (6 * t) 1) ?_
          refine va_sld hx hb hX hbl hbA hS (i := (nI ((6 * t) + 1))) (vp_in_nI (by omega) (by omega)) d_La_law_815 ?_
          refine aw_ti (y := nI j) (by rw [nI_clamp (by omega)]; exact hc0.symm) ?_
          refine lv_aload_n hx hb d_La_law_816 rfl (lv_at hl 3 rfl) ?_
          refine va_calli (vx_runSW (As := [.ref (aw_r ad 0), .int (nI j), .ref (aw_o ad)]) (rest := []) ⟨hx, hb, hml, hown, hG⟩ (k_La_tag1V l hst D g ad N0 zG zO zX zY zA zB zM zI zL zK zN zF zQ j hj (by omega)) (aw_wW 3 hG gw_9_2 gw_9_0 gw_0_0 gw_9_1 rfl rfl hd_La_tag ⟨Nat.le_of_ble_eq_true rfl, Nat.le_of_ble_eq_true rfl⟩) (ag_qS hP hD hSh hU hS) rfl rfl hl.1 rfl (lv_room (Nat.le_of_ble_eq_true rfl)) d_La_law_817 ⟨by omega, by omega⟩) hS (fun _ _ h => h) (fun _ h => h) ?_
          clear hP hD hSh hS
          intro x445 u8 t8 H locs ht _ ex445 hB _ _ hS
          obtain ⟨L, hP, hD, hSh⟩ := hB
          rw [ht] at hP
          clear ht
          subst ex445
          obtain ⟨zX446, ezX446⟩ : ∃ z : Nat → Nat → Int64, v_La_tag1V_zX zO zX zY zA j = z := ⟨_, rfl⟩
          rw [ezX446] at hSh
          obtain ⟨zY447, ezY447⟩ : ∃ z : Nat → Nat → Int32, v_La_tag1V_zY zO zX zY zA j = z := ⟨_, rfl⟩
          rw [ezY447] at hSh
          obtain ⟨zQ448, ezQ448⟩ : ∃ z : Int64, v_La_tag1V_zQ zO zX zY zA j = z := ⟨_, rfl⟩
          rw [ezQ448] at hSh
          refine lv_istore hx hb d_La_law_820 hl (by decide) rfl (fun ls hl => ?_)
          have hl : lv_has ls 8 [(5, .int (nI 0)), (0, .ref b), (1, .ref (aw_r ad 0)), (2, .ref (aw_m ad 0)), (3, .ref (aw_o ad)), (4, .int (nI (6 * t)))] := hl
          refine lv_aload_n hx hb d_La_law_822 rfl (lv_at hl 3 rfl) ?_
          refine lv_aload_n hx hb d_La_law_823 rfl (lv_at hl 1 rfl) ?_
          refine lv_iload hx hb d_La_law_824 (lv_at hl 5 rfl) ?_
          refine lv_iconst (v := nI 1) hx hb d_La_law_826 (by decide +kernel) ?_
          refine lv_iadd hx hb d_La_law_827 ?_
          refine aw_ti (nI_add (6 * t) 1) ?_
          refine va_sld hx hb hX hbl hbA hS (i := (nI ((6 * t) + 1))) (vp_in_nI (by omega) (by omega)) d_La_law_828 ?_
          refine aw_ti (y := nI j) (by rw [nI_clamp (by omega)]; exact hc0.symm) ?_
          obtain ⟨_, he449⟩ := zr_M0 hSh
          refine va_calll (va_runV (As := [.int (nI j)]) (rest := []) ⟨hx, hb, hml, hown, hG⟩ (k_Mo_tag1V l D g ad N0 zG zO zX446 zY447 zA zB zM zI zL zK zN zF zQ448 j kc hj (by omega) hkc hci) (aw_wV 1 hG gw_12_56 gw_12_53 gw_0_10 gw_12_54 gw_12_55 rfl rfl hd_Mo_tag ⟨Nat.le_of_ble_eq_true rfl, Nat.le_of_ble_eq_true rfl⟩) (ag_qV (va_recv hK hP rfl he449) hP hD hSh hU hS) rfl rfl hl.1 rfl (lv_room (Nat.le_of_ble_eq_true rfl)) d_La_law_829 ⟨by omega, by omega⟩) hS (fun _ _ h => h) (fun _ h => h) ?_
          clear hP hD hSh hS he449
          intro y450 u8 t8 H locs ht _ ey450 hB _ _ hS
          obtain ⟨L, hP, hD, hSh⟩ := hB
          rw [ht] at hP
          clear ht
          obtain ⟨zI451, ezI451⟩ : ∃ z : Nat → Nat → Int32, v_Mo_tag1V_zI zI zL j kc = z := ⟨_, rfl⟩
          rw [ezI451] at hSh
          obtain ⟨zL452, ezL452⟩ : ∃ z : Nat → Nat → Int64, v_Mo_tag1V_zL zI zL j kc = z := ⟨_, rfl⟩
          rw [ezL452] at hSh
          have ey450 := ey450.symm
          refine lv_lstore hx hb d_La_law_832 hl (by decide) rfl (fun ls hl => ?_)
          have hl : lv_has ls 8 [(6, .long y450), (5, .int (nI 0)), (0, .ref b), (1, .ref (aw_r ad 0)), (2, .ref (aw_m ad 0)), (3, .ref (aw_o ad)), (4, .int (nI (6 * t)))] := hl
          refine lv_goto (tgt := 837) hx hb d_La_law_834 (by decide) ?_
          refine lv_iinc (k := 6) (v := nI (6 * t + 6)) hx hb d_La_law_837 hl rfl (aw_inc (6 * t) 6 6 (by decide +kernel)) (by decide) rfl (fun ls hl => ?_)
          have hl : lv_has ls 8 [(4, .int (nI (6 * t + 6))), (6, .long y450), (5, .int (nI 0)), (0, .ref b), (1, .ref (aw_r ad 0)), (2, .ref (aw_m ad 0)), (3, .ref (aw_o ad))] := hl
          refine lv_goto (tgt := 23) hx hb d_La_law_840 (by decide) ?_
          have hl := lv_sub hl (l' := [(0, .ref b), (1, .ref (aw_r ad 0)), (2, .ref (aw_m ad 0)), (3, .ref (aw_o ad)), (4, .int (nI (6 * t + 6)))]) [3, 4, 5, 6, 0] rfl
          refine W.widen (k := 85 + (t + 1)) (n := 1246 + 6 * (t + 1)) (by omega) (by omega) ?_
          have hR : az_R zG zO zX446 zY447 zA zB zM zI451 zL452 := by
            subst ey450 ezL452 ezI451 ezQ448 ezY447 ezX446
            exact r_tag1 hR hj hs hkc hci hco
          exact ih (t + 1) zG zO zX446 zY447 zA zB zM zI451 zL452 (nI kc) (az_wn kc) (nI 0) zQ448 _ _ L ls (by omega) hP hD hSh hR hS (by first | exact hl | simpa [Nat.mul_add] using hl)
        · refine lv_aload_n hx hb d_La_law_809 rfl (lv_at hl 1 rfl) ?_
          refine lv_aload_n hx hb d_La_law_810 rfl (lv_at hl 0 rfl) ?_
          refine lv_iload hx hb d_La_law_811 (lv_at hl 4 rfl) ?_
          refine lv_iconst (v := nI 1) hx hb d_La_law_813 (by decide +kernel) ?_
          refine lv_iadd hx hb d_La_law_814 ?_
          refine aw_ti (nI_add (6 * t) 1) ?_
          refine va_sld hx hb hX hbl hbA hS (i := (nI ((6 * t) + 1))) (vp_in_nI (by omega) (by omega)) d_La_law_815 ?_
          refine aw_ti (y := nI j) (by rw [nI_clamp (by omega)]; exact hc0.symm) ?_
          refine lv_aload_n hx hb d_La_law_816 rfl (lv_at hl 3 rfl) ?_
          refine va_calli (vx_runSW (As := [.ref (aw_r ad 0), .int (nI j), .ref (aw_o ad)]) (rest := []) ⟨hx, hb, hml, hown, hG⟩ (k_La_tagXsV l hst D g ad N0 zG zO zX zY zA zB zM zI zL zK zN zF zQ j hj (by omega)) (aw_wW 3 hG gw_9_2 gw_9_0 gw_0_0 gw_9_1 rfl rfl hd_La_tag ⟨Nat.le_of_ble_eq_true rfl, Nat.le_of_ble_eq_true rfl⟩) (ag_qS hP hD hSh hU hS) rfl rfl hl.1 rfl (lv_room (Nat.le_of_ble_eq_true rfl)) d_La_law_817 ⟨by omega, by omega⟩) hS (fun _ _ h => h) (fun _ h => h) ?_
          clear hP hD hSh hS
          intro x453 u8 t8 H locs ht _ ex453 hB _ _ hS
          obtain ⟨L, hP, hD, hSh⟩ := hB
          rw [ht] at hP
          clear ht
          subst ex453
          refine lv_istore hx hb d_La_law_820 hl (by decide) rfl (fun ls hl => ?_)
          have hl : lv_has ls 8 [(5, .int (nI 2)), (0, .ref b), (1, .ref (aw_r ad 0)), (2, .ref (aw_m ad 0)), (3, .ref (aw_o ad)), (4, .int (nI (6 * t)))] := hl
          refine lv_aload_n hx hb d_La_law_822 rfl (lv_at hl 3 rfl) ?_
          refine lv_aload_n hx hb d_La_law_823 rfl (lv_at hl 1 rfl) ?_
          refine lv_iload hx hb d_La_law_824 (lv_at hl 5 rfl) ?_
          refine lv_iconst (v := nI 1) hx hb d_La_law_826 (by decide +kernel) ?_
          refine lv_iadd hx hb d_La_law_827 ?_
          refine aw_ti (nI_add (6 * t) 1) ?_
          refine va_sld hx hb hX hbl hbA hS (i := (nI ((6 * t) + 1))) (vp_in_nI (by omega) (by omega)) d_La_law_828 ?_
          refine aw_ti (y := nI j) (by rw [nI_clamp (by omega)]; exact hc0.symm) ?_
          obtain ⟨_, he454⟩ := zr_M0 hSh
          refine va_calll (va_runV (As := [.int (nI j)]) (rest := []) ⟨hx, hb, hml, hown, hG⟩ (k_Mo_tagXsV l D g ad N0 zG zO zX zY zA zB zM zI zL zK zN zF zQ j hj (by omega)) (aw_wV 1 hG gw_12_56 gw_12_53 gw_0_10 gw_12_54 gw_12_55 rfl rfl hd_Mo_tag ⟨Nat.le_of_ble_eq_true rfl, Nat.le_of_ble_eq_true rfl⟩) (ag_qV (va_recv hK hP rfl he454) hP hD hSh hU hS) rfl rfl hl.1 rfl (lv_room (Nat.le_of_ble_eq_true rfl)) d_La_law_829 ⟨by omega, by omega⟩) hS (fun _ _ h => h) (fun _ h => h) ?_
          clear hP hD hSh hS he454
          intro y455 u8 t8 H locs ht _ ey455 hB _ _ hS
          obtain ⟨L, hP, hD, hSh⟩ := hB
          rw [ht] at hP
          clear ht
          have ey455 := ey455.symm
          refine lv_lstore hx hb d_La_law_832 hl (by decide) rfl (fun ls hl => ?_)
          have hl : lv_has ls 8 [(6, .long y455), (5, .int (nI 2)), (0, .ref b), (1, .ref (aw_r ad 0)), (2, .ref (aw_m ad 0)), (3, .ref (aw_o ad)), (4, .int (nI (6 * t)))] := hl
          refine lv_goto (tgt := 837) hx hb d_La_law_834 (by decide) ?_
          refine lv_iinc (k := 6) (v := nI (6 * t + 6)) hx hb d_La_law_837 hl rfl (aw_inc (6 * t) 6 6 (by decide +kernel)) (by decide) rfl (fun ls hl => ?_)
          have hl : lv_has ls 8 [(4, .int (nI (6 * t + 6))), (6, .long y455), (5, .int (nI 2)), (0, .ref b), (1, .ref (aw_r ad 0)), (2, .ref (aw_m ad 0)), (3, .ref (aw_o ad))] := hl
          refine lv_goto (tgt := 23) hx hb d_La_law_840 (by decide) ?_
          have hl := lv_sub hl (l' := [(0, .ref b), (1, .ref (aw_r ad 0)), (2, .ref (aw_m ad 0)), (3, .ref (aw_o ad)), (4, .int (nI (6 * t + 6)))]) [3, 4, 5, 6, 0] rfl
          refine W.widen (k := 85 + (t + 1)) (n := 1246 + 6 * (t + 1)) (by omega) (by omega) ?_
          exact ih (t + 1) zG zO zX zY zA zB zM zI zL zK zN (nI 2) zQ _ _ L ls (by omega) hP hD hSh hR hS (by first | exact hl | simpa [Nat.mul_add] using hl)
    · refine aw_ti (y := nI 13) (by rw [hs3]) ?_
      refine lv_tableOut (tgt := 837) hx hb d_La_law_40 (by decide +kernel) (by decide) ?_
      refine lv_iinc (k := 4) (v := nI (6 * t + 6)) hx hb d_La_law_837 hl rfl (aw_inc (6 * t) 6 6 (by decide +kernel)) (by decide) rfl (fun ls hl => ?_)
      have hl : lv_has ls 8 [(4, .int (nI (6 * t + 6))), (0, .ref b), (1, .ref (aw_r ad 0)), (2, .ref (aw_m ad 0)), (3, .ref (aw_o ad))] := hl
      refine lv_goto (tgt := 23) hx hb d_La_law_840 (by decide) ?_
      have hl := lv_sub hl (l' := [(0, .ref b), (1, .ref (aw_r ad 0)), (2, .ref (aw_m ad 0)), (3, .ref (aw_o ad)), (4, .int (nI (6 * t + 6)))]) [1, 2, 3, 4, 0] rfl
      refine W.widen (k := 85 + (t + 1)) (n := 1246 + 6 * (t + 1)) (by omega) (by omega) ?_
      exact ih (t + 1) zG zO zX zY zA zB zM zI zL zK zN zF zQ _ _ L ls (by omega) hP hD hSh hR hS (by first | exact hl | simpa [Nat.mul_add] using hl)
    · refine aw_ti (y := nI 14) (by rw [hs3]) ?_
      refine lv_tableOut (tgt := 837) hx hb d_La_law_40 (by decide +kernel) (by decide) ?_
      refine lv_iinc (k := 4) (v := nI (6 * t + 6)) hx hb d_La_law_837 hl rfl (aw_inc (6 * t) 6 6 (by decide +kernel)) (by decide) rfl (fun ls hl => ?_)
      have hl : lv_has ls 8 [(4, .int (nI (6 * t + 6))), (0, .ref b), (1, .ref (aw_r ad 0)), (2, .ref (aw_m ad 0)), (3, .ref (aw_o ad))] := hl
      refine lv_goto (tgt := 23) hx hb d_La_law_840 (by decide) ?_
      have hl := lv_sub hl (l' := [(0, .ref b), (1, .ref (aw_r ad 0)), (2, .ref (aw_m ad 0)), (3, .ref (aw_o ad)), (4, .int (nI (6 * t + 6)))]) [1, 2, 3, 4, 0] rfl
      refine W.widen (k := 85 + (t + 1)) (n := 1246 + 6 * (t + 1)) (by omega) (by omega) ?_
      exact ih (t + 1) zG zO zX zY zA zB zM zI zL zK zN zF zQ _ _ L ls (by omega) hP hD hSh hR hS (by first | exact hl | simpa [Nat.mul_add] using hl)
    · refine aw_ti (y := nI 15) (by rw [hs3]) ?_
      refine lv_tableOut (tgt := 837) hx hb d_La_law_40 (by decide +kernel) (by decide) ?_
      refine lv_iinc (k := 4) (v := nI (6 * t + 6)) hx hb d_La_law_837 hl rfl (aw_inc (6 * t) 6 6 (by decide +kernel)) (by decide) rfl (fun ls hl => ?_)
      have hl : lv_has ls 8 [(4, .int (nI (6 * t + 6))), (0, .ref b), (1, .ref (aw_r ad 0)), (2, .ref (aw_m ad 0)), (3, .ref (aw_o ad))] := hl
      refine lv_goto (tgt := 23) hx hb d_La_law_840 (by decide) ?_
      have hl := lv_sub hl (l' := [(0, .ref b), (1, .ref (aw_r ad 0)), (2, .ref (aw_m ad 0)), (3, .ref (aw_o ad)), (4, .int (nI (6 * t + 6)))]) [1, 2, 3, 4, 0] rfl
      refine W.widen (k := 85 + (t + 1)) (n := 1246 + 6 * (t + 1)) (by omega) (by omega) ?_
      exact ih (t + 1) zG zO zX zY zA zB zM zI zL zK zN zF zQ _ _ L ls (by omega) hP hD hSh hR hS (by first | exact hl | simpa [Nat.mul_add] using hl)
