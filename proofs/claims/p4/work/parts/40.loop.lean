set_option maxHeartbeats 40000000 in
set_option maxRecDepth 100000 in
theorem law_loop {p : Program} {e : Env} {s : State} {m : MethodId} {below : List Frame} {meth : Method} {c : Code} (l : Launch) (hst : l.stackTraces = false) {b Ln : Nat} {xs : Nat → Int32} (hLn : Ln ≤ 3072) (C0 : lw_At p s m meth c b Ln xs) {D : va_G} {g : Nat → ClassId} {ad : Nat → Nat} {N0 : Nat} (hN0e : N0 = s.heap.size) (hU : aw_U D g N0 s) :
    ∀ (d t : Nat) (zG : Nat → Nat × Nat) (zO : Nat → Nat) (zX : Nat → Nat → Int64) (zY : Nat → Nat → Int32) (zA : Nat → Nat → Nat → Int32) (zB : Nat → Int32) (zM : Nat → Nat × Nat) (zI : Nat → Nat → Int32) (zL : Nat → Nat → Int64) (zK : Int32) (zN : Nat) (zF : Int32) (zQ : Int64) (H : Heap) (locs : List Loc) (L : va_W) (ls : Array Slot), t + d = Ln / 6 → va_P D aw_C L H → va_D (aw_Z N0) L → az_Sh g ad zG zO zX zY zA zB zM zI zL zK zN zF zQ L → az_R zG zO zX zY zA zB zM zI zL → va_S (aw_Z N0) s.heap H locs → lv_has ls 8 [(0, .ref b), (1, .ref (aw_r ad 0)), (2, .ref (aw_m ad 0)), (3, .ref (aw_o ad)), (4, .int (nI (6 * t)))] → W p l e room_1 s m #[Value.ref b] below meth c H locs (85 + t) (1246 + 6 * t) (lw_Z below #[Value.ref b] s) (F0 m 23 ls []) := by
  obtain ⟨hx, hb, hr, hml, hown, hts, hX, hbl, hlocks, hgv⟩ := C0
  have hown : s.vm.findClass "RuleCiphersLaw" = some m.cls := hown
  have hG : ∀ w ∈ aw_G, w.before #[Value.ref b] s = true := fun w h => hts w (aw_GL w h)
  have hbA : ¬ aw_Z N0 b := fun h => by have h9 : N0 ≤ b := h; omega
  have hR1 : room_1.cells = 613841 := rfl
  have hR2 : room_1.slots = 7254581 := rfl
  have hE := hU.1
  have hK := hE.1
  have hN := hE.2.1
  intro d
  induction d with
  | zero =>
    intro t zG zO zX zY zA zB zM zI zL zK zN zF zQ H locs L ls ht0 hP hD hSh hR hS hl
    by_cases h6 : 6 ≤ Ln
    · refine lv_iload hx hb d_La_law_23 (lv_at hl 4 rfl) ?_
      refine lv_aload_n hx hb d_La_law_25 rfl (lv_at hl 0 rfl) ?_
      refine va_slen hx hb hX hbl hbA hS d_La_law_26 ?_
      refine aw_ti (y := nI Ln) rfl ?_
      refine lv_bipush (v := nI 6) hx hb d_La_law_27 (by decide +kernel) ?_
      refine lv_isub hx hb d_La_law_29 ?_
      refine aw_ti (pk_sub (a := Ln) (b := 6) (by omega)) ?_
      refine lv_icmp_gt (tgt := 843) hx hb d_La_law_30 (by decide) (fun _ => ?_) (fun h => absurd (show nI (Ln - 6) < nI (6 * t) from (nI_ltI (by omega) (by omega)).mpr (by omega)) h)
      refine lv_iconst (v := 1) hx hb d_La_law_843 (by decide +kernel) ?_
      refine va_forget (fun q hq => by have h9 := hS.2.2 q hq; rw [← hN0e]; exact h9) ?_
      refine W.widen (k := 613841) (n := 7254581) (by omega) (by omega) ?_
      exact lw_ret hx hb hr hlocks d_La_law_844
    · have ht1 : t = 0 := by omega
      subst ht1
      refine lv_iload hx hb d_La_law_23 (lv_at hl 4 rfl) ?_
      refine lv_aload_n hx hb d_La_law_25 rfl (lv_at hl 0 rfl) ?_
      refine va_slen hx hb hX hbl hbA hS d_La_law_26 ?_
      refine aw_ti (y := nI Ln) rfl ?_
      refine lv_bipush (v := nI 6) hx hb d_La_law_27 (by decide +kernel) ?_
      refine lv_isub hx hb d_La_law_29 ?_
      refine lv_icmp_gt (tgt := 843) hx hb d_La_law_30 (by decide) (fun _ => ?_) (fun h => absurd (show nI Ln - nI 6 < nI (6 * 0) from pk_sneg (by decide) (by omega)) h)
      refine lv_iconst (v := 1) hx hb d_La_law_843 (by decide +kernel) ?_
      refine va_forget (fun q hq => by have h9 := hS.2.2 q hq; rw [← hN0e]; exact h9) ?_
      refine W.widen (k := 613841) (n := 7254581) (by omega) (by omega) ?_
      exact lw_ret hx hb hr hlocks d_La_law_844
  | succ d ih =>
    intro t zG zO zX zY zA zB zM zI zL zK zN zF zQ H locs L ls ht0 hP hD hSh hR hS hl
    refine lv_iload hx hb d_La_law_23 (lv_at hl 4 rfl) ?_
    refine lv_aload_n hx hb d_La_law_25 rfl (lv_at hl 0 rfl) ?_
    refine va_slen hx hb hX hbl hbA hS d_La_law_26 ?_
    refine aw_ti (y := nI Ln) rfl ?_
    refine lv_bipush (v := nI 6) hx hb d_La_law_27 (by decide +kernel) ?_
    refine lv_isub hx hb d_La_law_29 ?_
    refine aw_ti (pk_sub (a := Ln) (b := 6) (by omega)) ?_
    refine lv_icmp_gt (tgt := 843) hx hb d_La_law_30 (by decide) (fun h => absurd h (show ¬ nI (Ln - 6) < nI (6 * t) from fun h9 => absurd ((nI_ltI (by omega) (by omega)).mp h9) (by omega))) (fun _ => ?_)
    refine lv_aload_n hx hb d_La_law_33 rfl (lv_at hl 0 rfl) ?_
    refine lv_iload hx hb d_La_law_34 (lv_at hl 4 rfl) ?_
    refine va_sld hx hb hX hbl hbA hS (i := (nI (6 * t))) (vp_in_nI (by omega) (by omega)) d_La_law_36 ?_
    refine lv_topi (fun x1 _ => ?_)
    refine lv_bipush (v := nI 15) hx hb d_La_law_37 (by decide +kernel) ?_
    refine lv_iand hx hb d_La_law_39 ?_
    obtain ⟨k2, hk2, ek2⟩ := pk_andE x1 (m := nI 15) 4 (by decide +kernel)
    refine aw_ti ek2 ?_
    rcases (by omega : k2 = 0 ∨ k2 = 1 ∨ k2 = 2 ∨ k2 = 3 ∨ k2 = 4 ∨ k2 = 5 ∨ k2 = 6 ∨ k2 = 7 ∨ k2 = 8 ∨ k2 = 9 ∨ k2 = 10 ∨ k2 = 11 ∨ k2 = 12 ∨ k2 = 13 ∨ k2 = 14 ∨ k2 = 15) with hs3 | hs3 | hs3 | hs3 | hs3 | hs3 | hs3 | hs3 | hs3 | hs3 | hs3 | hs3 | hs3 | hs3 | hs3 | hs3
    · refine aw_ti (y := nI 0) (by rw [hs3]) ?_
      refine lv_tableIn (tgt := 108) (off := 68) hx hb d_La_law_40 (by decide +kernel) (by decide +kernel) (by decide +kernel) (by decide) ?_
      obtain ⟨c0, hc0⟩ : ∃ z : Int32, z = xs (6 * t + 1) := ⟨_, rfl⟩
      obtain ⟨k0, hk0⟩ : ∃ z : Int32, z = xs (6 * t + 2) := ⟨_, rfl⟩
      rcases aw_rng 4 (by decide) c0 with hc | ⟨j, hj, rfl⟩
      · refine lv_aload_n hx hb d_La_law_108 rfl (lv_at hl 1 rfl) ?_
        refine lv_aload_n hx hb d_La_law_109 rfl (lv_at hl 0 rfl) ?_
        refine lv_iload hx hb d_La_law_110 (lv_at hl 4 rfl) ?_
        refine lv_iconst (v := nI 1) hx hb d_La_law_112 (by decide +kernel) ?_
        refine lv_iadd hx hb d_La_law_113 ?_
        refine aw_ti (nI_add (6 * t) 1) ?_
        refine va_sld hx hb hX hbl hbA hS (i := (nI ((6 * t) + 1))) (vp_in_nI (by omega) (by omega)) d_La_law_114 ?_
        refine aw_ti (y := c0) (by rw [nI_clamp (by omega)]; exact hc0.symm) ?_
        refine lv_aload_n hx hb d_La_law_115 rfl (lv_at hl 0 rfl) ?_
        refine lv_iload hx hb d_La_law_116 (lv_at hl 4 rfl) ?_
        refine lv_iconst (v := nI 2) hx hb d_La_law_118 (by decide +kernel) ?_
        refine lv_iadd hx hb d_La_law_119 ?_
        refine aw_ti (nI_add (6 * t) 2) ?_
        refine va_sld hx hb hX hbl hbA hS (i := (nI ((6 * t) + 2))) (vp_in_nI (by omega) (by omega)) d_La_law_120 ?_
        refine aw_ti (y := k0) (by rw [nI_clamp (by omega)]; exact hk0.symm) ?_
        refine va_calli (vx_runSW (As := [.ref (aw_r ad 0), .int c0, .int k0]) (rest := []) ⟨hx, hb, hml, hown, hG⟩ (k_La_chooseXcV l hst D g ad N0 zG zO zX zY zA zB zM zI zL zK zN zF zQ c0 k0 hc) (aw_wW 3 hG gw_2_37 gw_2_35 gw_0_0 gw_2_36 rfl rfl hd_La_choose ⟨Nat.le_of_ble_eq_true rfl, Nat.le_of_ble_eq_true rfl⟩) (ag_qS hP hD hSh hU hS) rfl rfl hl.1 rfl (lv_room (Nat.le_of_ble_eq_true rfl)) d_La_law_121 ⟨by omega, by omega⟩) hS (fun _ _ h => h) (fun _ h => h) ?_
        clear hP hD hSh hS
        intro x4 u8 t8 H locs ht _ ex4 hB _ _ hS
        obtain ⟨L, hP, hD, hSh⟩ := hB
        rw [ht] at hP
        clear ht
        subst ex4
        refine lv_istore hx hb d_La_law_124 hl (by decide) rfl (fun ls hl => ?_)
        have hl : lv_has ls 8 [(5, .int (nI 1)), (0, .ref b), (1, .ref (aw_r ad 0)), (2, .ref (aw_m ad 0)), (3, .ref (aw_o ad)), (4, .int (nI (6 * t)))] := hl
        refine lv_aload_n hx hb d_La_law_126 rfl (lv_at hl 3 rfl) ?_
        refine lv_aload_n hx hb d_La_law_127 rfl (lv_at hl 1 rfl) ?_
        refine lv_iload hx hb d_La_law_128 (lv_at hl 5 rfl) ?_
        refine lv_iconst (v := nI 1) hx hb d_La_law_130 (by decide +kernel) ?_
        refine lv_iadd hx hb d_La_law_131 ?_
        refine aw_ti (nI_add (6 * t) 1) ?_
        refine va_sld hx hb hX hbl hbA hS (i := (nI ((6 * t) + 1))) (vp_in_nI (by omega) (by omega)) d_La_law_132 ?_
        refine aw_ti (y := c0) (by rw [nI_clamp (by omega)]; exact hc0.symm) ?_
        refine lv_aload_n hx hb d_La_law_133 rfl (lv_at hl 1 rfl) ?_
        refine lv_iload hx hb d_La_law_134 (lv_at hl 5 rfl) ?_
        refine lv_iconst (v := nI 2) hx hb d_La_law_136 (by decide +kernel) ?_
        refine lv_iadd hx hb d_La_law_137 ?_
        refine aw_ti (nI_add (6 * t) 2) ?_
        refine va_sld hx hb hX hbl hbA hS (i := (nI ((6 * t) + 2))) (vp_in_nI (by omega) (by omega)) d_La_law_138 ?_
        refine aw_ti (y := k0) (by rw [nI_clamp (by omega)]; exact hk0.symm) ?_
        obtain ⟨_, he5⟩ := zr_M0 hSh
        refine va_callv (va_runV (As := [.int c0, .int k0]) (rest := []) ⟨hx, hb, hml, hown, hG⟩ (k_Mo_chooseXcV l D g ad N0 zG zO zX zY zA zB zM zI zL zK zN zF zQ c0 k0 hc) (aw_wV 2 hG gw_10_31 gw_10_28 gw_0_10 gw_10_29 gw_10_30 rfl rfl hd_Mo_choose ⟨Nat.le_of_ble_eq_true rfl, Nat.le_of_ble_eq_true rfl⟩) (ag_qV (va_recv hK hP rfl he5) hP hD hSh hU hS) rfl rfl hl.1 rfl (lv_room (Nat.le_of_ble_eq_true rfl)) d_La_law_139 ⟨by omega, by omega⟩) hS (fun _ _ h => h) (fun _ h => h) ?_
        clear hP hD hSh hS he5
        intro u8 t8 H locs ht _ _ hB _ _ hS
        obtain ⟨L, hP, hD, hSh⟩ := hB
        rw [ht] at hP
        clear ht
        refine lv_goto (tgt := 837) hx hb d_La_law_142 (by decide) ?_
        refine lv_iinc (k := 5) (v := nI (6 * t + 6)) hx hb d_La_law_837 hl rfl (aw_inc (6 * t) 6 6 (by decide +kernel)) (by decide) rfl (fun ls hl => ?_)
        have hl : lv_has ls 8 [(4, .int (nI (6 * t + 6))), (5, .int (nI 1)), (0, .ref b), (1, .ref (aw_r ad 0)), (2, .ref (aw_m ad 0)), (3, .ref (aw_o ad))] := hl
        refine lv_goto (tgt := 23) hx hb d_La_law_840 (by decide) ?_
        have hl := lv_sub hl (l' := [(0, .ref b), (1, .ref (aw_r ad 0)), (2, .ref (aw_m ad 0)), (3, .ref (aw_o ad)), (4, .int (nI (6 * t + 6)))]) [2, 3, 4, 5, 0] rfl
        refine W.widen (k := 85 + (t + 1)) (n := 1246 + 6 * (t + 1)) (by omega) (by omega) ?_
        exact ih (t + 1) zG zO zX zY zA zB zM zI zL zK zN (nI 1) zQ _ _ L ls (by omega) hP hD hSh hR hS (by first | exact hl | simpa [Nat.mul_add] using hl)
      · have hgj := hSh.2.2.2.2.1 j hj
        have hq1 : (zM j).1 = (zG j).1 := by rw [hR.1 j hj]
        have hq2 : (zM j).2 = (zG j).2 := by rw [hR.1 j hj]
        rcases aw_rng 5 (by decide) k0 with hk | ⟨k, hk, rfl⟩
        · refine lv_aload_n hx hb d_La_law_108 rfl (lv_at hl 1 rfl) ?_
          refine lv_aload_n hx hb d_La_law_109 rfl (lv_at hl 0 rfl) ?_
          refine lv_iload hx hb d_La_law_110 (lv_at hl 4 rfl) ?_
          refine lv_iconst (v := nI 1) hx hb d_La_law_112 (by decide +kernel) ?_
          refine lv_iadd hx hb d_La_law_113 ?_
          refine aw_ti (nI_add (6 * t) 1) ?_
          refine va_sld hx hb hX hbl hbA hS (i := (nI ((6 * t) + 1))) (vp_in_nI (by omega) (by omega)) d_La_law_114 ?_
          refine aw_ti (y := nI j) (by rw [nI_clamp (by omega)]; exact hc0.symm) ?_
          refine lv_aload_n hx hb d_La_law_115 rfl (lv_at hl 0 rfl) ?_
          refine lv_iload hx hb d_La_law_116 (lv_at hl 4 rfl) ?_
          refine lv_iconst (v := nI 2) hx hb d_La_law_118 (by decide +kernel) ?_
          refine lv_iadd hx hb d_La_law_119 ?_
          refine aw_ti (nI_add (6 * t) 2) ?_
          refine va_sld hx hb hX hbl hbA hS (i := (nI ((6 * t) + 2))) (vp_in_nI (by omega) (by omega)) d_La_law_120 ?_
          refine aw_ti (y := k0) (by rw [nI_clamp (by omega)]; exact hk0.symm) ?_
          refine va_calli (vx_runSW (As := [.ref (aw_r ad 0), .int (nI j), .int k0]) (rest := []) ⟨hx, hb, hml, hown, hG⟩ (k_La_chooseXaV l hst D g ad N0 zG zO zX zY zA zB zM zI zL zK zN zF zQ j k0 hj hk) (aw_wW 3 hG gw_2_37 gw_2_35 gw_0_0 gw_2_36 rfl rfl hd_La_choose ⟨Nat.le_of_ble_eq_true rfl, Nat.le_of_ble_eq_true rfl⟩) (ag_qS hP hD hSh hU hS) rfl rfl hl.1 rfl (lv_room (Nat.le_of_ble_eq_true rfl)) d_La_law_121 ⟨by omega, by omega⟩) hS (fun _ _ h => h) (fun _ h => h) ?_
          clear hP hD hSh hS
          intro x6 u8 t8 H locs ht _ ex6 hB _ _ hS
          obtain ⟨L, hP, hD, hSh⟩ := hB
          rw [ht] at hP
          clear ht
          subst ex6
          refine lv_istore hx hb d_La_law_124 hl (by decide) rfl (fun ls hl => ?_)
          have hl : lv_has ls 8 [(5, .int (nI 2)), (0, .ref b), (1, .ref (aw_r ad 0)), (2, .ref (aw_m ad 0)), (3, .ref (aw_o ad)), (4, .int (nI (6 * t)))] := hl
          refine lv_aload_n hx hb d_La_law_126 rfl (lv_at hl 3 rfl) ?_
          refine lv_aload_n hx hb d_La_law_127 rfl (lv_at hl 1 rfl) ?_
          refine lv_iload hx hb d_La_law_128 (lv_at hl 5 rfl) ?_
          refine lv_iconst (v := nI 1) hx hb d_La_law_130 (by decide +kernel) ?_
          refine lv_iadd hx hb d_La_law_131 ?_
          refine aw_ti (nI_add (6 * t) 1) ?_
          refine va_sld hx hb hX hbl hbA hS (i := (nI ((6 * t) + 1))) (vp_in_nI (by omega) (by omega)) d_La_law_132 ?_
          refine aw_ti (y := nI j) (by rw [nI_clamp (by omega)]; exact hc0.symm) ?_
          refine lv_aload_n hx hb d_La_law_133 rfl (lv_at hl 1 rfl) ?_
          refine lv_iload hx hb d_La_law_134 (lv_at hl 5 rfl) ?_
          refine lv_iconst (v := nI 2) hx hb d_La_law_136 (by decide +kernel) ?_
          refine lv_iadd hx hb d_La_law_137 ?_
          refine aw_ti (nI_add (6 * t) 2) ?_
          refine va_sld hx hb hX hbl hbA hS (i := (nI ((6 * t) + 2))) (vp_in_nI (by omega) (by omega)) d_La_law_138 ?_
          refine aw_ti (y := k0) (by rw [nI_clamp (by omega)]; exact hk0.symm) ?_
          obtain ⟨_, he7⟩ := zr_M0 hSh
          refine va_callv (va_runV (As := [.int (nI j), .int k0]) (rest := []) ⟨hx, hb, hml, hown, hG⟩ (k_Mo_chooseXaV l D g ad N0 zG zO zX zY zA zB zM zI zL zK zN zF zQ j k0 hj (aw_bnd 4 (by decide) hk)) (aw_wV 2 hG gw_10_31 gw_10_28 gw_0_10 gw_10_29 gw_10_30 rfl rfl hd_Mo_choose ⟨Nat.le_of_ble_eq_true rfl, Nat.le_of_ble_eq_true rfl⟩) (ag_qV (va_recv hK hP rfl he7) hP hD hSh hU hS) rfl rfl hl.1 rfl (lv_room (Nat.le_of_ble_eq_true rfl)) d_La_law_139 ⟨by omega, by omega⟩) hS (fun _ _ h => h) (fun _ h => h) ?_
          clear hP hD hSh hS he7
          intro u8 t8 H locs ht _ _ hB _ _ hS
          obtain ⟨L, hP, hD, hSh⟩ := hB
          rw [ht] at hP
          clear ht
          refine lv_goto (tgt := 837) hx hb d_La_law_142 (by decide) ?_
          refine lv_iinc (k := 5) (v := nI (6 * t + 6)) hx hb d_La_law_837 hl rfl (aw_inc (6 * t) 6 6 (by decide +kernel)) (by decide) rfl (fun ls hl => ?_)
          have hl : lv_has ls 8 [(4, .int (nI (6 * t + 6))), (5, .int (nI 2)), (0, .ref b), (1, .ref (aw_r ad 0)), (2, .ref (aw_m ad 0)), (3, .ref (aw_o ad))] := hl
          refine lv_goto (tgt := 23) hx hb d_La_law_840 (by decide) ?_
          have hl := lv_sub hl (l' := [(0, .ref b), (1, .ref (aw_r ad 0)), (2, .ref (aw_m ad 0)), (3, .ref (aw_o ad)), (4, .int (nI (6 * t + 6)))]) [2, 3, 4, 5, 0] rfl
          refine W.widen (k := 85 + (t + 1)) (n := 1246 + 6 * (t + 1)) (by omega) (by omega) ?_
          exact ih (t + 1) zG zO zX zY zA zB zM zI zL zK zN (nI 2) zQ _ _ L ls (by omega) hP hD hSh hR hS (by first | exact hl | simpa [Nat.mul_add] using hl)
        · by_cases hs : (zG j).1 = 0
          · refine lv_aload_n hx hb d_La_law_108 rfl (lv_at hl 1 rfl) ?_
            refine lv_aload_n hx hb d_La_law_109 rfl (lv_at hl 0 rfl) ?_
            refine lv_iload hx hb d_La_law_110 (lv_at hl 4 rfl) ?_
            refine lv_iconst (v := nI 1) hx hb d_La_law_112 (by decide +kernel) ?_
            refine lv_iadd hx hb d_La_law_113 ?_
            refine aw_ti (nI_add (6 * t) 1) ?_
            refine va_sld hx hb hX hbl hbA hS (i := (nI ((6 * t) + 1))) (vp_in_nI (by omega) (by omega)) d_La_law_114 ?_
            refine aw_ti (y := nI j) (by rw [nI_clamp (by omega)]; exact hc0.symm) ?_
            refine lv_aload_n hx hb d_La_law_115 rfl (lv_at hl 0 rfl) ?_
            refine lv_iload hx hb d_La_law_116 (lv_at hl 4 rfl) ?_
            refine lv_iconst (v := nI 2) hx hb d_La_law_118 (by decide +kernel) ?_
            refine lv_iadd hx hb d_La_law_119 ?_
            refine aw_ti (nI_add (6 * t) 2) ?_
            refine va_sld hx hb hX hbl hbA hS (i := (nI ((6 * t) + 2))) (vp_in_nI (by omega) (by omega)) d_La_law_120 ?_
            refine aw_ti (y := nI k) (by rw [nI_clamp (by omega)]; exact hk0.symm) ?_
            refine va_calli (vx_runSW (As := [.ref (aw_r ad 0), .int (nI j), .int (nI k)]) (rest := []) ⟨hx, hb, hml, hown, hG⟩ (k_La_choose1V l hst D g ad N0 zG zO zX zY zA zB zM zI zL zK zN zF zQ j k hj (by omega) (by omega)) (aw_wW 3 hG gw_2_37 gw_2_35 gw_0_0 gw_2_36 rfl rfl hd_La_choose ⟨Nat.le_of_ble_eq_true rfl, Nat.le_of_ble_eq_true rfl⟩) (ag_qS hP hD hSh hU hS) rfl rfl hl.1 rfl (lv_room (Nat.le_of_ble_eq_true rfl)) d_La_law_121 ⟨by omega, by omega⟩) hS (fun _ _ h => h) (fun _ h => h) ?_
            clear hP hD hSh hS
            intro x8 u8 t8 H locs ht _ ex8 hB _ _ hS
            obtain ⟨L, hP, hD, hSh⟩ := hB
            rw [ht] at hP
            clear ht
            subst ex8
            obtain ⟨zG9, ezG9⟩ : ∃ z : Nat → Nat × Nat, v_La_choose1V_zG zG zO j k = z := ⟨_, rfl⟩
            rw [ezG9] at hSh
            obtain ⟨zO10, ezO10⟩ : ∃ z : Nat → Nat, v_La_choose1V_zO zG zO j k = z := ⟨_, rfl⟩
            rw [ezO10] at hSh
            refine lv_istore hx hb d_La_law_124 hl (by decide) rfl (fun ls hl => ?_)
            have hl : lv_has ls 8 [(5, .int (nI 0)), (0, .ref b), (1, .ref (aw_r ad 0)), (2, .ref (aw_m ad 0)), (3, .ref (aw_o ad)), (4, .int (nI (6 * t)))] := hl
            refine lv_aload_n hx hb d_La_law_126 rfl (lv_at hl 3 rfl) ?_
            refine lv_aload_n hx hb d_La_law_127 rfl (lv_at hl 1 rfl) ?_
            refine lv_iload hx hb d_La_law_128 (lv_at hl 5 rfl) ?_
            refine lv_iconst (v := nI 1) hx hb d_La_law_130 (by decide +kernel) ?_
            refine lv_iadd hx hb d_La_law_131 ?_
            refine aw_ti (nI_add (6 * t) 1) ?_
            refine va_sld hx hb hX hbl hbA hS (i := (nI ((6 * t) + 1))) (vp_in_nI (by omega) (by omega)) d_La_law_132 ?_
            refine aw_ti (y := nI j) (by rw [nI_clamp (by omega)]; exact hc0.symm) ?_
            refine lv_aload_n hx hb d_La_law_133 rfl (lv_at hl 1 rfl) ?_
            refine lv_iload hx hb d_La_law_134 (lv_at hl 5 rfl) ?_
            refine lv_iconst (v := nI 2) hx hb d_La_law_136 (by decide +kernel) ?_
            refine lv_iadd hx hb d_La_law_137 ?_
            refine aw_ti (nI_add (6 * t) 2) ?_
            refine va_sld hx hb hX hbl hbA hS (i := (nI ((6 * t) + 2))) (vp_in_nI (by omega) (by omega)) d_La_law_138 ?_
            refine aw_ti (y := nI k) (by rw [nI_clamp (by omega)]; exact hk0.symm) ?_
            obtain ⟨_, he11⟩ := zr_M0 hSh
            refine va_callv (va_runV (As := [.int (nI j), .int (nI k)]) (rest := []) ⟨hx, hb, hml, hown, hG⟩ (k_Mo_choose1V l D g ad N0 zG9 zO10 zX zY zA zB zM zI zL zK zN zF zQ j k hj (by omega) (by omega)) (aw_wV 2 hG gw_10_31 gw_10_28 gw_0_10 gw_10_29 gw_10_30 rfl rfl hd_Mo_choose ⟨Nat.le_of_ble_eq_true rfl, Nat.le_of_ble_eq_true rfl⟩) (ag_qV (va_recv hK hP rfl he11) hP hD hSh hU hS) rfl rfl hl.1 rfl (lv_room (Nat.le_of_ble_eq_true rfl)) d_La_law_139 ⟨by omega, by omega⟩) hS (fun _ _ h => h) (fun _ h => h) ?_
            clear hP hD hSh hS he11
            intro u8 t8 H locs ht _ _ hB _ _ hS
            obtain ⟨L, hP, hD, hSh⟩ := hB
            rw [ht] at hP
            clear ht
            obtain ⟨zM12, ezM12⟩ : ∃ z : Nat → Nat × Nat, v_Mo_choose1V_zM zM zI j k = z := ⟨_, rfl⟩
            rw [ezM12] at hSh
            obtain ⟨zI13, ezI13⟩ : ∃ z : Nat → Nat → Int32, v_Mo_choose1V_zI zM zI j k = z := ⟨_, rfl⟩
            rw [ezI13] at hSh
            refine lv_goto (tgt := 837) hx hb d_La_law_142 (by decide) ?_
            refine lv_iinc (k := 5) (v := nI (6 * t + 6)) hx hb d_La_law_837 hl rfl (aw_inc (6 * t) 6 6 (by decide +kernel)) (by decide) rfl (fun ls hl => ?_)
            have hl : lv_has ls 8 [(4, .int (nI (6 * t + 6))), (5, .int (nI 0)), (0, .ref b), (1, .ref (aw_r ad 0)), (2, .ref (aw_m ad 0)), (3, .ref (aw_o ad))] := hl
            refine lv_goto (tgt := 23) hx hb d_La_law_840 (by decide) ?_
            have hl := lv_sub hl (l' := [(0, .ref b), (1, .ref (aw_r ad 0)), (2, .ref (aw_m ad 0)), (3, .ref (aw_o ad)), (4, .int (nI (6 * t + 6)))]) [2, 3, 4, 5, 0] rfl
            refine W.widen (k := 85 + (t + 1)) (n := 1246 + 6 * (t + 1)) (by omega) (by omega) ?_
            have hR : az_R zG9 zO10 zX zY zA zB zM12 zI13 zL := by
              subst ezI13 ezM12 ezO10 ezG9
              exact r_choose1 hR hj hk hs
            exact ih (t + 1) zG9 zO10 zX zY zA zB zM12 zI13 zL zK zN (nI 0) zQ _ _ L ls (by omega) hP hD hSh hR hS (by first | exact hl | simpa [Nat.mul_add] using hl)
          · refine lv_aload_n hx hb d_La_law_108 rfl (lv_at hl 1 rfl) ?_
            refine lv_aload_n hx hb d_La_law_109 rfl (lv_at hl 0 rfl) ?_
            refine lv_iload hx hb d_La_law_110 (lv_at hl 4 rfl) ?_
            refine lv_iconst (v := nI 1) hx hb d_La_law_112 (by decide +kernel) ?_
            refine lv_iadd hx hb d_La_law_113 ?_
            refine aw_ti (nI_add (6 * t) 1) ?_
            refine va_sld hx hb hX hbl hbA hS (i := (nI ((6 * t) + 1))) (vp_in_nI (by omega) (by omega)) d_La_law_114 ?_
            refine aw_ti (y := nI j) (by rw [nI_clamp (by omega)]; exact hc0.symm) ?_
            refine lv_aload_n hx hb d_La_law_115 rfl (lv_at hl 0 rfl) ?_
            refine lv_iload hx hb d_La_law_116 (lv_at hl 4 rfl) ?_
            refine lv_iconst (v := nI 2) hx hb d_La_law_118 (by decide +kernel) ?_
            refine lv_iadd hx hb d_La_law_119 ?_
            refine aw_ti (nI_add (6 * t) 2) ?_
            refine va_sld hx hb hX hbl hbA hS (i := (nI ((6 * t) + 2))) (vp_in_nI (by omega) (by omega)) d_La_law_120 ?_
            refine aw_ti (y := nI k) (by rw [nI_clamp (by omega)]; exact hk0.symm) ?_
            refine va_calli (vx_runSW (As := [.ref (aw_r ad 0), .int (nI j), .int (nI k)]) (rest := []) ⟨hx, hb, hml, hown, hG⟩ (k_La_chooseXsV l hst D g ad N0 zG zO zX zY zA zB zM zI zL zK zN zF zQ j k hj (by omega) (by omega)) (aw_wW 3 hG gw_2_37 gw_2_35 gw_0_0 gw_2_36 rfl rfl hd_La_choose ⟨Nat.le_of_ble_eq_true rfl, Nat.le_of_ble_eq_true rfl⟩) (ag_qS hP hD hSh hU hS) rfl rfl hl.1 rfl (lv_room (Nat.le_of_ble_eq_true rfl)) d_La_law_121 ⟨by omega, by omega⟩) hS (fun _ _ h => h) (fun _ h => h) ?_
            clear hP hD hSh hS
            intro x14 u8 t8 H locs ht _ ex14 hB _ _ hS
            obtain ⟨L, hP, hD, hSh⟩ := hB
            rw [ht] at hP
            clear ht
            subst ex14
            refine lv_istore hx hb d_La_law_124 hl (by decide) rfl (fun ls hl => ?_)
            have hl : lv_has ls 8 [(5, .int (nI 3)), (0, .ref b), (1, .ref (aw_r ad 0)), (2, .ref (aw_m ad 0)), (3, .ref (aw_o ad)), (4, .int (nI (6 * t)))] := hl
            refine lv_aload_n hx hb d_La_law_126 rfl (lv_at hl 3 rfl) ?_
            refine lv_aload_n hx hb d_La_law_127 rfl (lv_at hl 1 rfl) ?_
            refine lv_iload hx hb d_La_law_128 (lv_at hl 5 rfl) ?_
            refine lv_iconst (v := nI 1) hx hb d_La_law_130 (by decide +kernel) ?_
            refine lv_iadd hx hb d_La_law_131 ?_
            refine aw_ti (nI_add (6 * t) 1) ?_
            refine va_sld hx hb hX hbl hbA hS (i := (nI ((6 * t) + 1))) (vp_in_nI (by omega) (by omega)) d_La_law_132 ?_
            refine aw_ti (y := nI j) (by rw [nI_clamp (by omega)]; exact hc0.symm) ?_
            refine lv_aload_n hx hb d_La_law_133 rfl (lv_at hl 1 rfl) ?_
            refine lv_iload hx hb d_La_law_134 (lv_at hl 5 rfl) ?_
            refine lv_iconst (v := nI 2) hx hb d_La_law_136 (by decide +kernel) ?_
            refine lv_iadd hx hb d_La_law_137 ?_
            refine aw_ti (nI_add (6 * t) 2) ?_
            refine va_sld hx hb hX hbl hbA hS (i := (nI ((6 * t) + 2))) (vp_in_nI (by omega) (by omega)) d_La_law_138 ?_
            refine aw_ti (y := nI k) (by rw [nI_clamp (by omega)]; exact hk0.symm) ?_
            obtain ⟨_, he15⟩ := zr_M0 hSh
            refine va_callv (va_runV (As := [.int (nI j), .int (nI k)]) (rest := []) ⟨hx, hb, hml, hown, hG⟩ (k_Mo_chooseXsV l D g ad N0 zG zO zX zY zA zB zM zI zL zK zN zF zQ j k hj (by omega) (by omega)) (aw_wV 2 hG gw_10_31 gw_10_28 gw_0_10 gw_10_29 gw_10_30 rfl rfl hd_Mo_choose ⟨Nat.le_of_ble_eq_true rfl, Nat.le_of_ble_eq_true rfl⟩) (ag_qV (va_recv hK hP rfl he15) hP hD hSh hU hS) rfl rfl hl.1 rfl (lv_room (Nat.le_of_ble_eq_true rfl)) d_La_law_139 ⟨by omega, by omega⟩) hS (fun _ _ h => h) (fun _ h => h) ?_
            clear hP hD hSh hS he15
            intro u8 t8 H locs ht _ _ hB _ _ hS
            obtain ⟨L, hP, hD, hSh⟩ := hB
            rw [ht] at hP
            clear ht
            refine lv_goto (tgt := 837) hx hb d_La_law_142 (by decide) ?_
            refine lv_iinc (k := 5) (v := nI (6 * t + 6)) hx hb d_La_law_837 hl rfl (aw_inc (6 * t) 6 6 (by decide +kernel)) (by decide) rfl (fun ls hl => ?_)
            have hl : lv_has ls 8 [(4, .int (nI (6 * t + 6))), (5, .int (nI 3)), (0, .ref b), (1, .ref (aw_r ad 0)), (2, .ref (aw_m ad 0)), (3, .ref (aw_o ad))] := hl
            refine lv_goto (tgt := 23) hx hb d_La_law_840 (by decide) ?_
            have hl := lv_sub hl (l' := [(0, .ref b), (1, .ref (aw_r ad 0)), (2, .ref (aw_m ad 0)), (3, .ref (aw_o ad)), (4, .int (nI (6 * t + 6)))]) [2, 3, 4, 5, 0] rfl
            refine W.widen (k := 85 + (t + 1)) (n := 1246 + 6 * (t + 1)) (by omega) (by omega) ?_
            exact ih (t + 1) zG zO zX zY zA zB zM zI zL zK zN (nI 3) zQ _ _ L ls (by omega) hP hD hSh hR hS (by first | exact hl | simpa [Nat.mul_add] using hl)
    · refine aw_ti (y := nI 1) (by rw [hs3]) ?_
      refine lv_tableIn (tgt := 145) (off := 105) hx hb d_La_law_40 (by decide +kernel) (by decide +kernel) (by decide +kernel) (by decide) ?_
      obtain ⟨c0, hc0⟩ : ∃ z : Int32, z = xs (6 * t + 1) := ⟨_, rfl⟩
      obtain ⟨s2, hs2⟩ : ∃ z : Int32, z = xs (6 * t + 2) := ⟨_, rfl⟩
      obtain ⟨s3, hs3⟩ : ∃ z : Int32, z = xs (6 * t + 3) := ⟨_, rfl⟩
      obtain ⟨s4, hs4⟩ : ∃ z : Int32, z = xs (6 * t + 4) := ⟨_, rfl⟩
      obtain ⟨s5, hs5⟩ : ∃ z : Int32, z = xs (6 * t + 5) := ⟨_, rfl⟩
      rcases aw_rng 4 (by decide) c0 with hc | ⟨j, hj, rfl⟩
      · refine lv_aload_n hx hb d_La_law_145 rfl (lv_at hl 1 rfl) ?_
        refine lv_aload_n hx hb d_La_law_146 rfl (lv_at hl 0 rfl) ?_
        refine lv_iload hx hb d_La_law_147 (lv_at hl 4 rfl) ?_
        refine lv_iconst (v := nI 1) hx hb d_La_law_149 (by decide +kernel) ?_
        refine lv_iadd hx hb d_La_law_150 ?_
        refine aw_ti (nI_add (6 * t) 1) ?_
        refine va_sld hx hb hX hbl hbA hS (i := (nI ((6 * t) + 1))) (vp_in_nI (by omega) (by omega)) d_La_law_151 ?_
        refine aw_ti (y := c0) (by rw [nI_clamp (by omega)]; exact hc0.symm) ?_
        refine lv_aload_n hx hb d_La_law_152 rfl (lv_at hl 0 rfl) ?_
        refine lv_iload hx hb d_La_law_153 (lv_at hl 4 rfl) ?_
        refine lv_iconst (v := nI 2) hx hb d_La_law_155 (by decide +kernel) ?_
        refine lv_iadd hx hb d_La_law_156 ?_
        refine aw_ti (nI_add (6 * t) 2) ?_
        refine va_sld hx hb hX hbl hbA hS (i := (nI ((6 * t) + 2))) (vp_in_nI (by omega) (by omega)) d_La_law_157 ?_
        refine aw_ti (y := s2) (by rw [nI_clamp (by omega)]; exact hs2.symm) ?_
        refine lv_i2l hx hb d_La_law_158 rfl ?_
        refine ag_topl (fun y16 ey16 => ?_)
        refine lv_bipush (v := nI 32) hx hb d_La_law_159 (by decide +kernel) ?_
        refine lv_lshl hx hb d_La_law_161 rfl ?_
        refine ag_topl (fun y17 ey17 => ?_)
        refine lv_aload_n hx hb d_La_law_162 rfl (lv_at hl 0 rfl) ?_
        refine lv_iload hx hb d_La_law_163 (lv_at hl 4 rfl) ?_
        refine lv_iconst (v := nI 3) hx hb d_La_law_165 (by decide +kernel) ?_
        refine lv_iadd hx hb d_La_law_166 ?_
        refine aw_ti (nI_add (6 * t) 3) ?_
        refine va_sld hx hb hX hbl hbA hS (i := (nI ((6 * t) + 3))) (vp_in_nI (by omega) (by omega)) d_La_law_167 ?_
        refine aw_ti (y := s3) (by rw [nI_clamp (by omega)]; exact hs3.symm) ?_
        refine lv_i2l hx hb d_La_law_168 rfl ?_
        refine ag_topl (fun y18 ey18 => ?_)
        refine lv_ldc2 (v := 4294967295) hx hb hown (hG _ gw_13_3) d_La_law_169 ?_
        refine lv_land hx hb d_La_law_172 ?_
        refine ag_topl (fun y19 ey19 => ?_)
        refine lv_lor hx hb d_La_law_173 ?_
        refine ag_topl (fun y20 ey20 => ?_)
        refine lv_aload_n hx hb d_La_law_174 rfl (lv_at hl 0 rfl) ?_
        refine lv_iload hx hb d_La_law_175 (lv_at hl 4 rfl) ?_
        refine lv_iconst (v := nI 4) hx hb d_La_law_177 (by decide +kernel) ?_
        refine lv_iadd hx hb d_La_law_178 ?_
        refine aw_ti (nI_add (6 * t) 4) ?_
        refine va_sld hx hb hX hbl hbA hS (i := (nI ((6 * t) + 4))) (vp_in_nI (by omega) (by omega)) d_La_law_179 ?_
        refine aw_ti (y := s4) (by rw [nI_clamp (by omega)]; exact hs4.symm) ?_
        refine lv_i2l hx hb d_La_law_180 rfl ?_
        refine ag_topl (fun y21 ey21 => ?_)
        refine lv_bipush (v := nI 32) hx hb d_La_law_181 (by decide +kernel) ?_
        refine lv_lshl hx hb d_La_law_183 rfl ?_
        refine ag_topl (fun y22 ey22 => ?_)
        refine lv_aload_n hx hb d_La_law_184 rfl (lv_at hl 0 rfl) ?_
        refine lv_iload hx hb d_La_law_185 (lv_at hl 4 rfl) ?_
        refine lv_iconst (v := nI 5) hx hb d_La_law_187 (by decide +kernel) ?_
        refine lv_iadd hx hb d_La_law_188 ?_
        refine aw_ti (nI_add (6 * t) 5) ?_
        refine va_sld hx hb hX hbl hbA hS (i := (nI ((6 * t) + 5))) (vp_in_nI (by omega) (by omega)) d_La_law_189 ?_
        refine aw_ti (y := s5) (by rw [nI_clamp (by omega)]; exact hs5.symm) ?_
        refine lv_i2l hx hb d_La_law_190 rfl ?_
        refine ag_topl (fun y23 ey23 => ?_)
        refine lv_ldc2 (v := 4294967295) hx hb hown (hG _ gw_13_3) d_La_law_191 ?_
        refine lv_land hx hb d_La_law_194 ?_
        refine ag_topl (fun y24 ey24 => ?_)
        refine lv_lor hx hb d_La_law_195 ?_
        refine ag_topl (fun y25 ey25 => ?_)
        refine va_calli (vx_runSW (As := [.ref (aw_r ad 0), .int c0, .long y20, .long y25]) (rest := []) ⟨hx, hb, hml, hown, hG⟩ (k_La_keyXcV l hst D g ad N0 zG zO zX zY zA zB zM zI zL zK zN zF zQ c0 y20 y25 hc) (aw_wW 4 hG gw_4_19 gw_4_17 gw_0_0 gw_4_18 rfl rfl hd_La_key ⟨Nat.le_of_ble_eq_true rfl, Nat.le_of_ble_eq_true rfl⟩) (ag_qS hP hD hSh hU hS) rfl rfl hl.1 rfl (lv_room (Nat.le_of_ble_eq_true rfl)) d_La_law_196 ⟨by omega, by omega⟩) hS (fun _ _ h => h) (fun _ h => h) ?_
        clear hP hD hSh hS
        intro x26 u8 t8 H locs ht _ ex26 hB _ _ hS
        obtain ⟨L, hP, hD, hSh⟩ := hB
        rw [ht] at hP
        clear ht
        subst ex26
        refine lv_istore hx hb d_La_law_199 hl (by decide) rfl (fun ls hl => ?_)
        have hl : lv_has ls 8 [(5, .int (nI 1)), (0, .ref b), (1, .ref (aw_r ad 0)), (2, .ref (aw_m ad 0)), (3, .ref (aw_o ad)), (4, .int (nI (6 * t)))] := hl
        refine lv_aload_n hx hb d_La_law_201 rfl (lv_at hl 3 rfl) ?_
        refine lv_aload_n hx hb d_La_law_202 rfl (lv_at hl 1 rfl) ?_
        refine lv_iload hx hb d_La_law_203 (lv_at hl 5 rfl) ?_
        refine lv_iconst (v := nI 1) hx hb d_La_law_205 (by decide +kernel) ?_
        refine lv_iadd hx hb d_La_law_206 ?_
        refine aw_ti (nI_add (6 * t) 1) ?_
        refine va_sld hx hb hX hbl hbA hS (i := (nI ((6 * t) + 1))) (vp_in_nI (by omega) (by omega)) d_La_law_207 ?_
        refine aw_ti (y := c0) (by rw [nI_clamp (by omega)]; exact hc0.symm) ?_
        refine lv_aload_n hx hb d_La_law_208 rfl (lv_at hl 1 rfl) ?_
        refine lv_iload hx hb d_La_law_209 (lv_at hl 5 rfl) ?_
        refine lv_iconst (v := nI 2) hx hb d_La_law_211 (by decide +kernel) ?_
        refine lv_iadd hx hb d_La_law_212 ?_
        refine aw_ti (nI_add (6 * t) 2) ?_
        refine va_sld hx hb hX hbl hbA hS (i := (nI ((6 * t) + 2))) (vp_in_nI (by omega) (by omega)) d_La_law_213 ?_
        refine aw_ti (y := s2) (by rw [nI_clamp (by omega)]; exact hs2.symm) ?_
        refine lv_i2l hx hb d_La_law_214 rfl ?_
        refine ag_topl (fun y27 ey27 => ?_)
        refine lv_bipush (v := nI 32) hx hb d_La_law_215 (by decide +kernel) ?_
        refine lv_lshl hx hb d_La_law_217 rfl ?_
        refine ag_topl (fun y28 ey28 => ?_)
        refine lv_aload_n hx hb d_La_law_218 rfl (lv_at hl 1 rfl) ?_
        refine lv_iload hx hb d_La_law_219 (lv_at hl 5 rfl) ?_
        refine lv_iconst (v := nI 3) hx hb d_La_law_221 (by decide +kernel) ?_
        refine lv_iadd hx hb d_La_law_222 ?_
        refine aw_ti (nI_add (6 * t) 3) ?_
        refine va_sld hx hb hX hbl hbA hS (i := (nI ((6 * t) + 3))) (vp_in_nI (by omega) (by omega)) d_La_law_223 ?_
        refine aw_ti (y := s3) (by rw [nI_clamp (by omega)]; exact hs3.symm) ?_
        refine lv_i2l hx hb d_La_law_224 rfl ?_
        refine ag_topl (fun y29 ey29 => ?_)
        refine lv_ldc2 (v := 4294967295) hx hb hown (hG _ gw_13_3) d_La_law_225 ?_
        refine lv_land hx hb d_La_law_228 ?_
        refine ag_topl (fun y30 ey30 => ?_)
        refine lv_lor hx hb d_La_law_229 ?_
        refine ag_topl (fun y31 ey31 => ?_)
        refine lv_aload_n hx hb d_La_law_230 rfl (lv_at hl 1 rfl) ?_
        refine lv_iload hx hb d_La_law_231 (lv_at hl 5 rfl) ?_
        refine lv_iconst (v := nI 4) hx hb d_La_law_233 (by decide +kernel) ?_
        refine lv_iadd hx hb d_La_law_234 ?_
        refine aw_ti (nI_add (6 * t) 4) ?_
        refine va_sld hx hb hX hbl hbA hS (i := (nI ((6 * t) + 4))) (vp_in_nI (by omega) (by omega)) d_La_law_235 ?_
        refine aw_ti (y := s4) (by rw [nI_clamp (by omega)]; exact hs4.symm) ?_
        refine lv_i2l hx hb d_La_law_236 rfl ?_
        refine ag_topl (fun y32 ey32 => ?_)
        refine lv_bipush (v := nI 32) hx hb d_La_law_237 (by decide +kernel) ?_
        refine lv_lshl hx hb d_La_law_239 rfl ?_
        refine ag_topl (fun y33 ey33 => ?_)
        refine lv_aload_n hx hb d_La_law_240 rfl (lv_at hl 1 rfl) ?_
        refine lv_iload hx hb d_La_law_241 (lv_at hl 5 rfl) ?_
        refine lv_iconst (v := nI 5) hx hb d_La_law_243 (by decide +kernel) ?_
        refine lv_iadd hx hb d_La_law_244 ?_
        refine aw_ti (nI_add (6 * t) 5) ?_
        refine va_sld hx hb hX hbl hbA hS (i := (nI ((6 * t) + 5))) (vp_in_nI (by omega) (by omega)) d_La_law_245 ?_
        refine aw_ti (y := s5) (by rw [nI_clamp (by omega)]; exact hs5.symm) ?_
        refine lv_i2l hx hb d_La_law_246 rfl ?_
        refine ag_topl (fun y34 ey34 => ?_)
        refine lv_ldc2 (v := 4294967295) hx hb hown (hG _ gw_13_3) d_La_law_247 ?_
        refine lv_land hx hb d_La_law_250 ?_
        refine ag_topl (fun y35 ey35 => ?_)
        refine lv_lor hx hb d_La_law_251 ?_
        refine ag_topl (fun y36 ey36 => ?_)
        obtain ⟨_, he37⟩ := zr_M0 hSh
        refine va_callv (va_runV (As := [.int c0, .long y31, .long y36]) (rest := []) ⟨hx, hb, hml, hown, hG⟩ (k_Mo_keyXcV l D g ad N0 zG zO zX zY zA zB zM zI zL zK zN zF zQ c0 y31 y36 hc) (aw_wV 3 hG gw_10_41 gw_10_38 gw_0_10 gw_10_39 gw_10_40 rfl rfl hd_Mo_key ⟨Nat.le_of_ble_eq_true rfl, Nat.le_of_ble_eq_true rfl⟩) (ag_qV (va_recv hK hP rfl he37) hP hD hSh hU hS) rfl rfl hl.1 rfl (lv_room (Nat.le_of_ble_eq_true rfl)) d_La_law_252 ⟨by omega, by omega⟩) hS (fun _ _ h => h) (fun _ h => h) ?_
        clear hP hD hSh hS he37
        intro u8 t8 H locs ht _ _ hB _ _ hS
        obtain ⟨L, hP, hD, hSh⟩ := hB
        rw [ht] at hP
        clear ht
        refine lv_goto (tgt := 837) hx hb d_La_law_255 (by decide) ?_
        refine lv_iinc (k := 5) (v := nI (6 * t + 6)) hx hb d_La_law_837 hl rfl (aw_inc (6 * t) 6 6 (by decide +kernel)) (by decide) rfl (fun ls hl => ?_)
        have hl : lv_has ls 8 [(4, .int (nI (6 * t + 6))), (5, .int (nI 1)), (0, .ref b), (1, .ref (aw_r ad 0)), (2, .ref (aw_m ad 0)), (3, .ref (aw_o ad))] := hl
        refine lv_goto (tgt := 23) hx hb d_La_law_840 (by decide) ?_
        have hl := lv_sub hl (l' := [(0, .ref b), (1, .ref (aw_r ad 0)), (2, .ref (aw_m ad 0)), (3, .ref (aw_o ad)), (4, .int (nI (6 * t + 6)))]) [2, 3, 4, 5, 0] rfl
        refine W.widen (k := 85 + (t + 1)) (n := 1246 + 6 * (t + 1)) (by omega) (by omega) ?_
        exact ih (t + 1) zG zO zX zY zA zB zM zI zL zK zN (nI 1) zQ _ _ L ls (by omega) hP hD hSh hR hS (by first | exact hl | simpa [Nat.mul_add] using hl)
      · have hgj := hSh.2.2.2.2.1 j hj
        have hq1 : (zM j).1 = (zG j).1 := by rw [hR.1 j hj]
        have hq2 : (zM j).2 = (zG j).2 := by rw [hR.1 j hj]
        by_cases hs : (zG j).1 = 0
        · refine lv_aload_n hx hb d_La_law_145 rfl (lv_at hl 1 rfl) ?_
          refine lv_aload_n hx hb d_La_law_146 rfl (lv_at hl 0 rfl) ?_
          refine lv_iload hx hb d_La_law_147 (lv_at hl 4 rfl) ?_
          refine lv_iconst (v := nI 1) hx hb d_La_law_149 (by decide +kernel) ?_
          refine lv_iadd hx hb d_La_law_150 ?_
          refine aw_ti (nI_add (6 * t) 1) ?_
          refine va_sld hx hb hX hbl hbA hS (i := (nI ((6 * t) + 1))) (vp_in_nI (by omega) (by omega)) d_La_law_151 ?_
          refine aw_ti (y := nI j) (by rw [nI_clamp (by omega)]; exact hc0.symm) ?_
          refine lv_aload_n hx hb d_La_law_152 rfl (lv_at hl 0 rfl) ?_
          refine lv_iload hx hb d_La_law_153 (lv_at hl 4 rfl) ?_
          refine lv_iconst (v := nI 2) hx hb d_La_law_155 (by decide +kernel) ?_
          refine lv_iadd hx hb d_La_law_156 ?_
          refine aw_ti (nI_add (6 * t) 2) ?_
          refine va_sld hx hb hX hbl hbA hS (i := (nI ((6 * t) + 2))) (vp_in_nI (by omega) (by omega)) d_La_law_157 ?_
          refine aw_ti (y := s2) (by rw [nI_clamp (by omega)]; exact hs2.symm) ?_
          refine lv_i2l hx hb d_La_law_158 rfl ?_
          refine ag_topl (fun y38 ey38 => ?_)
          refine lv_bipush (v := nI 32) hx hb d_La_law_159 (by decide +kernel) ?_
          refine lv_lshl hx hb d_La_law_161 rfl ?_
          refine ag_topl (fun y39 ey39 => ?_)
          refine lv_aload_n hx hb d_La_law_162 rfl (lv_at hl 0 rfl) ?_
          refine lv_iload hx hb d_La_law_163 (lv_at hl 4 rfl) ?_
          refine lv_iconst (v := nI 3) hx hb d_La_law_165 (by decide +kernel) ?_
          refine lv_iadd hx hb d_La_law_166 ?_
          refine aw_ti (nI_add (6 * t) 3) ?_
          refine va_sld hx hb hX hbl hbA hS (i := (nI ((6 * t) + 3))) (vp_in_nI (by omega) (by omega)) d_La_law_167 ?_
          refine aw_ti (y := s3) (by rw [nI_clamp (by omega)]; exact hs3.symm) ?_
          refine lv_i2l hx hb d_La_law_168 rfl ?_
          refine ag_topl (fun y40 ey40 => ?_)
          refine lv_ldc2 (v := 4294967295) hx hb hown (hG _ gw_13_3) d_La_law_169 ?_
          refine lv_land hx hb d_La_law_172 ?_
          refine ag_topl (fun y41 ey41 => ?_)
          refine lv_lor hx hb d_La_law_173 ?_
          refine ag_topl (fun y42 ey42 => ?_)
          refine lv_aload_n hx hb d_La_law_174 rfl (lv_at hl 0 rfl) ?_
          refine lv_iload hx hb d_La_law_175 (lv_at hl 4 rfl) ?_
          refine lv_iconst (v := nI 4) hx hb d_La_law_177 (by decide +kernel) ?_
          refine lv_iadd hx hb d_La_law_178 ?_
          refine aw_ti (nI_add (6 * t) 4) ?_
          refine va_sld hx hb hX hbl hbA hS (i := (nI ((6 * t) + 4))) (vp_in_nI (by omega) (by omega)) d_La_law_179 ?_
          refine aw_ti (y := s4) (by rw [nI_clamp (by omega)]; exact hs4.symm) ?_
          refine lv_i2l hx hb d_La_law_180 rfl ?_
          refine ag_topl (fun y43 ey43 => ?_)
          refine lv_bipush (v := nI 32) hx hb d_La_law_181 (by decide +kernel) ?_
          refine lv_lshl hx hb d_La_law_183 rfl ?_
          refine ag_topl (fun y44 ey44 => ?_)
          refine lv_aload_n hx hb d_La_law_184 rfl (lv_at hl 0 rfl) ?_
          refine lv_iload hx hb d_La_law_185 (lv_at hl 4 rfl) ?_
          refine lv_iconst (v := nI 5) hx hb d_La_law_187 (by decide +kernel) ?_
          refine lv_iadd hx hb d_La_law_188 ?_
          refine aw_ti (nI_add (6 * t) 5) ?_
          refine va_sld hx hb hX hbl hbA hS (i := (nI ((6 * t) + 5))) (vp_in_nI (by omega) (by omega)) d_La_law_189 ?_
          refine aw_ti (y := s5) (by rw [nI_clamp (by omega)]; exact hs5.symm) ?_
          refine lv_i2l hx hb d_La_law_190 rfl ?_
          refine ag_topl (fun y45 ey45 => ?_)
          refine lv_ldc2 (v := 4294967295) hx hb hown (hG _ gw_13_3) d_La_law_191 ?_
          refine lv_land hx hb d_La_law_194 ?_
          refine ag_topl (fun y46 ey46 => ?_)
          refine lv_lor hx hb d_La_law_195 ?_
          refine ag_topl (fun y47 ey47 => ?_)
          refine va_calli (vx_runSW (As := [.ref (aw_r ad 0), .int (nI j), .long y42, .long y47]) (rest := []) ⟨hx, hb, hml, hown, hG⟩ (k_La_keyXsV l hst D g ad N0 zG zO zX zY zA zB zM zI zL zK zN zF zQ j y42 y47 hj (by omega)) (aw_wW 4 hG gw_4_19 gw_4_17 gw_0_0 gw_4_18 rfl rfl hd_La_key ⟨Nat.le_of_ble_eq_true rfl, Nat.le_of_ble_eq_true rfl⟩) (ag_qS hP hD hSh hU hS) rfl rfl hl.1 rfl (lv_room (Nat.le_of_ble_eq_true rfl)) d_La_law_196 ⟨by omega, by omega⟩) hS (fun _ _ h => h) (fun _ h => h) ?_
          clear hP hD hSh hS
          intro x48 u8 t8 H locs ht _ ex48 hB _ _ hS
          obtain ⟨L, hP, hD, hSh⟩ := hB
          rw [ht] at hP
          clear ht
          subst ex48
          refine lv_istore hx hb d_La_law_199 hl (by decide) rfl (fun ls hl => ?_)
          have hl : lv_has ls 8 [(5, .int (nI 2)), (0, .ref b), (1, .ref (aw_r ad 0)), (2, .ref (aw_m ad 0)), (3, .ref (aw_o ad)), (4, .int (nI (6 * t)))] := hl
          refine lv_aload_n hx hb d_La_law_201 rfl (lv_at hl 3 rfl) ?_
          refine lv_aload_n hx hb d_La_law_202 rfl (lv_at hl 1 rfl) ?_
          refine lv_iload hx hb d_La_law_203 (lv_at hl 5 rfl) ?_
          refine lv_iconst (v := nI 1) hx hb d_La_law_205 (by decide +kernel) ?_
          refine lv_iadd hx hb d_La_law_206 ?_
          refine aw_ti (nI_add (6 * t) 1) ?_
          refine va_sld hx hb hX hbl hbA hS (i := (nI ((6 * t) + 1))) (vp_in_nI (by omega) (by omega)) d_La_law_207 ?_
          refine aw_ti (y := nI j) (by rw [nI_clamp (by omega)]; exact hc0.symm) ?_
          refine lv_aload_n hx hb d_La_law_208 rfl (lv_at hl 1 rfl) ?_
          refine lv_iload hx hb d_La_law_209 (lv_at hl 5 rfl) ?_
          refine lv_iconst (v := nI 2) hx hb d_La_law_211 (by decide +kernel) ?_
          refine lv_iadd hx hb d_La_law_212 ?_
          refine aw_ti (nI_add (6 * t) 2) ?_
          refine va_sld hx hb hX hbl hbA hS (i := (nI ((6 * t) + 2))) (vp_in_nI (by omega) (by omega)) d_La_law_213 ?_
          refine aw_ti (y := s2) (by rw [nI_clamp (by omega)]; exact hs2.symm) ?_
          refine lv_i2l hx hb d_La_law_214 rfl ?_
          refine ag_topl (fun y49 ey49 => ?_)
          refine lv_bipush (v := nI 32) hx hb d_La_law_215 (by decide +kernel) ?_
          refine lv_lshl hx hb d_La_law_217 rfl ?_
          refine ag_topl (fun y50 ey50 => ?_)
          refine lv_aload_n hx hb d_La_law_218 rfl (lv_at hl 1 rfl) ?_
          refine lv_iload hx hb d_La_law_219 (lv_at hl 5 rfl) ?_
          refine lv_iconst (v := nI 3) hx hb d_La_law_221 (by decide +kernel) ?_
          refine lv_iadd hx hb d_La_law_222 ?_
          refine aw_ti (nI_add (6 * t) 3) ?_
          refine va_sld hx hb hX hbl hbA hS (i := (nI ((6 * t) + 3))) (vp_in_nI (by omega) (by omega)) d_La_law_223 ?_
          refine aw_ti (y := s3) (by rw [nI_clamp (by omega)]; exact hs3.symm) ?_
          refine lv_i2l hx hb d_La_law_224 rfl ?_
          refine ag_topl (fun y51 ey51 => ?_)
          refine lv_ldc2 (v := 4294967295) hx hb hown (hG _ gw_13_3) d_La_law_225 ?_
          refine lv_land hx hb d_La_law_228 ?_
          refine ag_topl (fun y52 ey52 => ?_)
          refine lv_lor hx hb d_La_law_229 ?_
          refine ag_topl (fun y53 ey53 => ?_)
          refine lv_aload_n hx hb d_La_law_230 rfl (lv_at hl 1 rfl) ?_
          refine lv_iload hx hb d_La_law_231 (lv_at hl 5 rfl) ?_
          refine lv_iconst (v := nI 4) hx hb d_La_law_233 (by decide +kernel) ?_
          refine lv_iadd hx hb d_La_law_234 ?_
          refine aw_ti (nI_add (6 * t) 4) ?_
          refine va_sld hx hb hX hbl hbA hS (i := (nI ((6 * t) + 4))) (vp_in_nI (by omega) (by omega)) d_La_law_235 ?_
          refine aw_ti (y := s4) (by rw [nI_clamp (by omega)]; exact hs4.symm) ?_
          refine lv_i2l hx hb d_La_law_236 rfl ?_
          refine ag_topl (fun y54 ey54 => ?_)
          refine lv_bipush (v := nI 32) hx hb d_La_law_237 (by decide +kernel) ?_
          refine lv_lshl hx hb d_La_law_239 rfl ?_
          refine ag_topl (fun y55 ey55 => ?_)
          refine lv_aload_n hx hb d_La_law_240 rfl (lv_at hl 1 rfl) ?_
          refine lv_iload hx hb d_La_law_241 (lv_at hl 5 rfl) ?_
          refine lv_iconst (v := nI 5) hx hb d_La_law_243 (by decide +kernel) ?_
          refine lv_iadd hx hb d_La_law_244 ?_
          refine aw_ti (nI_add (6 * t) 5) ?_
          refine va_sld hx hb hX hbl hbA hS (i := (nI ((6 * t) + 5))) (vp_in_nI (by omega) (by omega)) d_La_law_245 ?_
          refine aw_ti (y := s5) (by rw [nI_clamp (by omega)]; exact hs5.symm) ?_
          refine lv_i2l hx hb d_La_law_246 rfl ?_
          refine ag_topl (fun y56 ey56 => ?_)
          refine lv_ldc2 (v := 4294967295) hx hb hown (hG _ gw_13_3) d_La_law_247 ?_
          refine lv_land hx hb d_La_law_250 ?_
          refine ag_topl (fun y57 ey57 => ?_)
          refine lv_lor hx hb d_La_law_251 ?_
          refine ag_topl (fun y58 ey58 => ?_)
          obtain ⟨_, he59⟩ := zr_M0 hSh
          refine va_callv (va_runV (As := [.int (nI j), .long y53, .long y58]) (rest := []) ⟨hx, hb, hml, hown, hG⟩ (k_Mo_keyXsV l D g ad N0 zG zO zX zY zA zB zM zI zL zK zN zF zQ j y53 y58 hj (by omega)) (aw_wV 3 hG gw_10_41 gw_10_38 gw_0_10 gw_10_39 gw_10_40 rfl rfl hd_Mo_key ⟨Nat.le_of_ble_eq_true rfl, Nat.le_of_ble_eq_true rfl⟩) (ag_qV (va_recv hK hP rfl he59) hP hD hSh hU hS) rfl rfl hl.1 rfl (lv_room (Nat.le_of_ble_eq_true rfl)) d_La_law_252 ⟨by omega, by omega⟩) hS (fun _ _ h => h) (fun _ h => h) ?_
          clear hP hD hSh hS he59
          intro u8 t8 H locs ht _ _ hB _ _ hS
          obtain ⟨L, hP, hD, hSh⟩ := hB
          rw [ht] at hP
          clear ht
          refine lv_goto (tgt := 837) hx hb d_La_law_255 (by decide) ?_
          refine lv_iinc (k := 5) (v := nI (6 * t + 6)) hx hb d_La_law_837 hl rfl (aw_inc (6 * t) 6 6 (by decide +kernel)) (by decide) rfl (fun ls hl => ?_)
          have hl : lv_has ls 8 [(4, .int (nI (6 * t + 6))), (5, .int (nI 2)), (0, .ref b), (1, .ref (aw_r ad 0)), (2, .ref (aw_m ad 0)), (3, .ref (aw_o ad))] := hl
          refine lv_goto (tgt := 23) hx hb d_La_law_840 (by decide) ?_
          have hl := lv_sub hl (l' := [(0, .ref b), (1, .ref (aw_r ad 0)), (2, .ref (aw_m ad 0)), (3, .ref (aw_o ad)), (4, .int (nI (6 * t + 6)))]) [2, 3, 4, 5, 0] rfl
          refine W.widen (k := 85 + (t + 1)) (n := 1246 + 6 * (t + 1)) (by omega) (by omega) ?_
          exact ih (t + 1) zG zO zX zY zA zB zM zI zL zK zN (nI 2) zQ _ _ L ls (by omega) hP hD hSh hR hS (by first | exact hl | simpa [Nat.mul_add] using hl)
        · refine lv_aload_n hx hb d_La_law_145 rfl (lv_at hl 1 rfl) ?_
          refine lv_aload_n hx hb d_La_law_146 rfl (lv_at hl 0 rfl) ?_
          refine lv_iload hx hb d_La_law_147 (lv_at hl 4 rfl) ?_
          refine lv_iconst (v := nI 1) hx hb d_La_law_149 (by decide +kernel) ?_
          refine lv_iadd hx hb d_La_law_150 ?_
          refine aw_ti (nI_add (6 * t) 1) ?_
          refine va_sld hx hb hX hbl hbA hS (i := (nI ((6 * t) + 1))) (vp_in_nI (by omega) (by omega)) d_La_law_151 ?_
          refine aw_ti (y := nI j) (by rw [nI_clamp (by omega)]; exact hc0.symm) ?_
          refine lv_aload_n hx hb d_La_law_152 rfl (lv_at hl 0 rfl) ?_
          refine lv_iload hx hb d_La_law_153 (lv_at hl 4 rfl) ?_
          refine lv_iconst (v := nI 2) hx hb d_La_law_155 (by decide +kernel) ?_
          refine lv_iadd hx hb d_La_law_156 ?_
          refine aw_ti (nI_add (6 * t) 2) ?_
          refine va_sld hx hb hX hbl hbA hS (i := (nI ((6 * t) + 2))) (vp_in_nI (by omega) (by omega)) d_La_law_157 ?_
          refine aw_ti (y := s2) (by rw [nI_clamp (by omega)]; exact hs2.symm) ?_
          refine lv_i2l hx hb d_La_law_158 rfl ?_
          refine ag_topl (fun y60 ey60 => ?_)
          refine lv_bipush (v := nI 32) hx hb d_La_law_159 (by decide +kernel) ?_
          refine lv_lshl hx hb d_La_law_161 rfl ?_
          refine ag_topl (fun y61 ey61 => ?_)
          refine lv_aload_n hx hb d_La_law_162 rfl (lv_at hl 0 rfl) ?_
          refine lv_iload hx hb d_La_law_163 (lv_at hl 4 rfl) ?_
          refine lv_iconst (v := nI 3) hx hb d_La_law_165 (by decide +kernel) ?_
          refine lv_iadd hx hb d_La_law_166 ?_
          refine aw_ti (nI_add (6 * t) 3) ?_
          refine va_sld hx hb hX hbl hbA hS (i := (nI ((6 * t) + 3))) (vp_in_nI (by omega) (by omega)) d_La_law_167 ?_
          refine aw_ti (y := s3) (by rw [nI_clamp (by omega)]; exact hs3.symm) ?_
          refine lv_i2l hx hb d_La_law_168 rfl ?_
          refine ag_topl (fun y62 ey62 => ?_)
          refine lv_ldc2 (v := 4294967295) hx hb hown (hG _ gw_13_3) d_La_law_169 ?_
          refine lv_land hx hb d_La_law_172 ?_
          refine ag_topl (fun y63 ey63 => ?_)
          refine lv_lor hx hb d_La_law_173 ?_
          refine ag_topl (fun y64 ey64 => ?_)
          refine lv_aload_n hx hb d_La_law_174 rfl (lv_at hl 0 rfl) ?_
          refine lv_iload hx hb d_La_law_175 (lv_at hl 4 rfl) ?_
          refine lv_iconst (v := nI 4) hx hb d_La_law_177 (by decide +kernel) ?_
          refine lv_iadd hx hb d_La_law_178 ?_
          refine aw_ti (nI_add (6 * t) 4) ?_
          refine va_sld hx hb hX hbl hbA hS (i := (nI ((6 * t) + 4))) (vp_in_nI (by omega) (by omega)) d_La_law_179 ?_
          refine aw_ti (y := s4) (by rw [nI_clamp (by omega)]; exact hs4.symm) ?_
          refine lv_i2l hx hb d_La_law_180 rfl ?_
          refine ag_topl (fun y65 ey65 => ?_)
          refine lv_bipush (v := nI 32) hx hb d_La_law_181 (by decide +kernel) ?_
          refine lv_lshl hx hb d_La_law_183 rfl ?_
          refine ag_topl (fun y66 ey66 => ?_)
          refine lv_aload_n hx hb d_La_law_184 rfl (lv_at hl 0 rfl) ?_
          refine lv_iload hx hb d_La_law_185 (lv_at hl 4 rfl) ?_
          refine lv_iconst (v := nI 5) hx hb d_La_law_187 (by decide +kernel) ?_
          refine lv_iadd hx hb d_La_law_188 ?_
          refine aw_ti (nI_add (6 * t) 5) ?_
          refine va_sld hx hb hX hbl hbA hS (i := (nI ((6 * t) + 5))) (vp_in_nI (by omega) (by omega)) d_La_law_189 ?_
          refine aw_ti (y := s5) (by rw [nI_clamp (by omega)]; exact hs5.symm) ?_
          refine lv_i2l hx hb d_La_law_190 rfl ?_
          refine ag_topl (fun y67 ey67 => ?_)
          refine lv_ldc2 (v := 4294967295) hx hb hown (hG _ gw_13_3) d_La_law_191 ?_
          refine lv_land hx hb d_La_law_194 ?_
          refine ag_topl (fun y68 ey68 => ?_)
          refine lv_lor hx hb d_La_law_195 ?_
          refine ag_topl (fun y69 ey69 => ?_)
          refine va_calli (vx_runSW (As := [.ref (aw_r ad 0), .int (nI j), .long y64, .long y69]) (rest := []) ⟨hx, hb, hml, hown, hG⟩ (k_La_key1V l hst D g ad N0 zG zO zX zY zA zB zM zI zL zK zN zF zQ j y64 y69 hj (by omega)) (aw_wW 4 hG gw_4_19 gw_4_17 gw_0_0 gw_4_18 rfl rfl hd_La_key ⟨Nat.le_of_ble_eq_true rfl, Nat.le_of_ble_eq_true rfl⟩) (ag_qS hP hD hSh hU hS) rfl rfl hl.1 rfl (lv_room (Nat.le_of_ble_eq_true rfl)) d_La_law_196 ⟨by omega, by omega⟩) hS (fun _ _ h => h) (fun _ h => h) ?_
          clear hP hD hSh hS
          intro x70 u8 t8 H locs ht _ ex70 hB _ _ hS
          obtain ⟨L, hP, hD, hSh⟩ := hB
          rw [ht] at hP
          clear ht
          subst ex70
          obtain ⟨zG71, ezG71⟩ : ∃ z : Nat → Nat × Nat, v_La_key1V_zG zG zO zA j y64 y69 = z := ⟨_, rfl⟩
          rw [ezG71] at hSh
          obtain ⟨zA72, ezA72⟩ : ∃ z : Nat → Nat → Nat → Int32, v_La_key1V_zA zG zO zA j y64 y69 = z := ⟨_, rfl⟩
          rw [ezA72] at hSh
          refine lv_istore hx hb d_La_law_199 hl (by decide) rfl (fun ls hl => ?_)
          have hl : lv_has ls 8 [(5, .int (nI 0)), (0, .ref b), (1, .ref (aw_r ad 0)), (2, .ref (aw_m ad 0)), (3, .ref (aw_o ad)), (4, .int (nI (6 * t)))] := hl
          refine lv_aload_n hx hb d_La_law_201 rfl (lv_at hl 3 rfl) ?_
          refine lv_aload_n hx hb d_La_law_202 rfl (lv_at hl 1 rfl) ?_
          refine lv_iload hx hb d_La_law_203 (lv_at hl 5 rfl) ?_
          refine lv_iconst (v := nI 1) hx hb d_La_law_205 (by decide +kernel) ?_
          refine lv_iadd hx hb d_La_law_206 ?_
          refine aw_ti (nI_add (6 * t) 1) ?_
          refine va_sld hx hb hX hbl hbA hS (i := (nI ((6 * t) + 1))) (vp_in_nI (by omega) (by omega)) d_La_law_207 ?_
          refine aw_ti (y := nI j) (by rw [nI_clamp (by omega)]; exact hc0.symm) ?_
          refine lv_aload_n hx hb d_La_law_208 rfl (lv_at hl 1 rfl) ?_
          refine lv_iload hx hb d_La_law_209 (lv_at hl 5 rfl) ?_
          refine lv_iconst (v := nI 2) hx hb d_La_law_211 (by decide +kernel) ?_
          refine lv_iadd hx hb d_La_law_212 ?_
          refine aw_ti (nI_add (6 * t) 2) ?_
          refine va_sld hx hb hX hbl hbA hS (i := (nI ((6 * t) + 2))) (vp_in_nI (by omega) (by omega)) d_La_law_213 ?_
          refine aw_ti (y := s2) (by rw [nI_clamp (by omega)]; exact hs2.symm) ?_
          refine lv_i2l hx hb d_La_law_214 rfl ?_
          refine ag_topl (fun y73 ey73 => ?_)
          refine lv_bipush (v := nI 32) hx hb d_La_law_215 (by decide +kernel) ?_
          refine lv_lshl hx hb d_La_law_217 rfl ?_
          refine ag_topl (fun y74 ey74 => ?_)
          refine lv_aload_n hx hb d_La_law_218 rfl (lv_at hl 1 rfl) ?_
          refine lv_iload hx hb d_La_law_219 (lv_at hl 5 rfl) ?_
          refine lv_iconst (v := nI 3) hx hb d_La_law_221 (by decide +kernel) ?_
          refine lv_iadd hx hb d_La_law_222 ?_
          refine aw_ti (nI_add (6 * t) 3) ?_
          refine va_sld hx hb hX hbl hbA hS (i := (nI ((6 * t) + 3))) (vp_in_nI (by omega) (by omega)) d_La_law_223 ?_
          refine aw_ti (y := s3) (by rw [nI_clamp (by omega)]; exact hs3.symm) ?_
          refine lv_i2l hx hb d_La_law_224 rfl ?_
          refine ag_topl (fun y75 ey75 => ?_)
          refine lv_ldc2 (v := 4294967295) hx hb hown (hG _ gw_13_3) d_La_law_225 ?_
          refine lv_land hx hb d_La_law_228 ?_
          refine ag_topl (fun y76 ey76 => ?_)
          refine lv_lor hx hb d_La_law_229 ?_
          refine ag_topl (fun y77 ey77 => ?_)
          refine lv_aload_n hx hb d_La_law_230 rfl (lv_at hl 1 rfl) ?_
          refine lv_iload hx hb d_La_law_231 (lv_at hl 5 rfl) ?_
          refine lv_iconst (v := nI 4) hx hb d_La_law_233 (by decide +kernel) ?_
          refine lv_iadd hx hb d_La_law_234 ?_
          refine aw_ti (nI_add (6 * t) 4) ?_
          refine va_sld hx hb hX hbl hbA hS (i := (nI ((6 * t) + 4))) (vp_in_nI (by omega) (by omega)) d_La_law_235 ?_
          refine aw_ti (y := s4) (by rw [nI_clamp (by omega)]; exact hs4.symm) ?_
          refine lv_i2l hx hb d_La_law_236 rfl ?_
          refine ag_topl (fun y78 ey78 => ?_)
          refine lv_bipush (v := nI 32) hx hb d_La_law_237 (by decide +kernel) ?_
          refine lv_lshl hx hb d_La_law_239 rfl ?_
          refine ag_topl (fun y79 ey79 => ?_)
          refine lv_aload_n hx hb d_La_law_240 rfl (lv_at hl 1 rfl) ?_
          refine lv_iload hx hb d_La_law_241 (lv_at hl 5 rfl) ?_
          refine lv_iconst (v := nI 5) hx hb d_La_law_243 (by decide +kernel) ?_
          refine lv_iadd hx hb d_La_law_244 ?_
          refine aw_ti (nI_add (6 * t) 5) ?_
          refine va_sld hx hb hX hbl hbA hS (i := (nI ((6 * t) + 5))) (vp_in_nI (by omega) (by omega)) d_La_law_245 ?_
          refine aw_ti (y := s5) (by rw [nI_clamp (by omega)]; exact hs5.symm) ?_
          refine lv_i2l hx hb d_La_law_246 rfl ?_
          refine ag_topl (fun y80 ey80 => ?_)
          refine lv_ldc2 (v := 4294967295) hx hb hown (hG _ gw_13_3) d_La_law_247 ?_
          refine lv_land hx hb d_La_law_250 ?_
          refine ag_topl (fun y81 ey81 => ?_)
          refine lv_lor hx hb d_La_law_251 ?_
          refine ag_topl (fun y82 ey82 => ?_)
          obtain ⟨_, he83⟩ := zr_M0 hSh
          refine va_callv (va_runV (As := [.int (nI j), .long y77, .long y82]) (rest := []) ⟨hx, hb, hml, hown, hG⟩ (k_Mo_key1V l D g ad N0 zG71 zO zX zY zA72 zB zM zI zL zK zN zF zQ j y77 y82 hj (by omega)) (aw_wV 3 hG gw_10_41 gw_10_38 gw_0_10 gw_10_39 gw_10_40 rfl rfl hd_Mo_key ⟨Nat.le_of_ble_eq_true rfl, Nat.le_of_ble_eq_true rfl⟩) (ag_qV (va_recv hK hP rfl he83) hP hD hSh hU hS) rfl rfl hl.1 rfl (lv_room (Nat.le_of_ble_eq_true rfl)) d_La_law_252 ⟨by omega, by omega⟩) hS (fun _ _ h => h) (fun _ h => h) ?_
          clear hP hD hSh hS he83
          intro u8 t8 H locs ht _ _ hB _ _ hS
          obtain ⟨L, hP, hD, hSh⟩ := hB
          rw [ht] at hP
          clear ht
          obtain ⟨zM84, ezM84⟩ : ∃ z : Nat → Nat × Nat, v_Mo_key1V_zM zM zI zL j y77 y82 = z := ⟨_, rfl⟩
          rw [ezM84] at hSh
          obtain ⟨zI85, ezI85⟩ : ∃ z : Nat → Nat → Int32, v_Mo_key1V_zI zM zI zL j y77 y82 = z := ⟨_, rfl⟩
          rw [ezI85] at hSh
          obtain ⟨zL86, ezL86⟩ : ∃ z : Nat → Nat → Int64, v_Mo_key1V_zL zM zI zL j y77 y82 = z := ⟨_, rfl⟩
          rw [ezL86] at hSh
          refine lv_goto (tgt := 837) hx hb d_La_law_255 (by decide) ?_
          refine lv_iinc (k := 5) (v := nI (6 * t + 6)) hx hb d_La_law_837 hl rfl (aw_inc (6 * t) 6 6 (by decide +kernel)) (by decide) rfl (fun ls hl => ?_)
          have hl : lv_has ls 8 [(4, .int (nI (6 * t + 6))), (5, .int (nI 0)), (0, .ref b), (1, .ref (aw_r ad 0)), (2, .ref (aw_m ad 0)), (3, .ref (aw_o ad))] := hl
          refine lv_goto (tgt := 23) hx hb d_La_law_840 (by decide) ?_
          have hl := lv_sub hl (l' := [(0, .ref b), (1, .ref (aw_r ad 0)), (2, .ref (aw_m ad 0)), (3, .ref (aw_o ad)), (4, .int (nI (6 * t + 6)))]) [2, 3, 4, 5, 0] rfl
          refine W.widen (k := 85 + (t + 1)) (n := 1246 + 6 * (t + 1)) (by omega) (by omega) ?_
          have hR : az_R zG71 zO zX zY zA72 zB zM84 zI85 zL86 := by
            subst ezL86 ezI85 ezM84 ey82 ey81 ey80 ey79 ey78 ey77 ey76 ey75 ey74 ey73 ezA72 ezG71 ey69 ey68 ey67 ey66 ey65 ey64 ey63 ey62 ey61 ey60
            exact r_key1 hR hj hs
          exact ih (t + 1) zG71 zO zX zY zA72 zB zM84 zI85 zL86 zK zN (nI 0) zQ _ _ L ls (by omega) hP hD hSh hR hS (by first | exact hl | simpa [Nat.mul_add] using hl)
    · refine aw_ti (y := nI 2) (by rw [hs3]) ?_
      refine lv_tableIn (tgt := 258) (off := 218) hx hb d_La_law_40 (by decide +kernel) (by decide +kernel) (by decide +kernel) (by decide) ?_
      obtain ⟨c0, hc0⟩ : ∃ z : Int32, z = xs (6 * t + 1) := ⟨_, rfl⟩
      obtain ⟨k0, hk0⟩ : ∃ z : Int32, z = xs (6 * t + 2) := ⟨_, rfl⟩
      obtain ⟨s3, hs3⟩ : ∃ z : Int32, z = xs (6 * t + 3) := ⟨_, rfl⟩
      obtain ⟨s4, hs4⟩ : ∃ z : Int32, z = xs (6 * t + 4) := ⟨_, rfl⟩
      rcases aw_rng 4 (by decide) c0 with hc | ⟨j, hj, rfl⟩
      · refine lv_aload_n hx hb d_La_law_258 rfl (lv_at hl 1 rfl) ?_
        refine lv_aload_n hx hb d_La_law_259 rfl (lv_at hl 0 rfl) ?_
        refine lv_iload hx hb d_La_law_260 (lv_at hl 4 rfl) ?_
        refine lv_iconst (v := nI 1) hx hb d_La_law_262 (by decide +kernel) ?_
        refine lv_iadd hx hb d_La_law_263 ?_
        refine aw_ti (nI_add (6 * t) 1) ?_
        refine va_sld hx hb hX hbl hbA hS (i := (nI ((6 * t) + 1))) (vp_in_nI (by omega) (by omega)) d_La_law_264 ?_
        refine aw_ti (y := c0) (by rw [nI_clamp (by omega)]; exact hc0.symm) ?_
        refine lv_aload_n hx hb d_La_law_265 rfl (lv_at hl 0 rfl) ?_
        refine lv_iload hx hb d_La_law_266 (lv_at hl 4 rfl) ?_
        refine lv_iconst (v := nI 2) hx hb d_La_law_268 (by decide +kernel) ?_
        refine lv_iadd hx hb d_La_law_269 ?_
        refine aw_ti (nI_add (6 * t) 2) ?_
        refine va_sld hx hb hX hbl hbA hS (i := (nI ((6 * t) + 2))) (vp_in_nI (by omega) (by omega)) d_La_law_270 ?_
        refine aw_ti (y := k0) (by rw [nI_clamp (by omega)]; exact hk0.symm) ?_
        refine lv_aload_n hx hb d_La_law_271 rfl (lv_at hl 0 rfl) ?_
        refine lv_iload hx hb d_La_law_272 (lv_at hl 4 rfl) ?_
        refine lv_iconst (v := nI 3) hx hb d_La_law_274 (by decide +kernel) ?_
        refine lv_iadd hx hb d_La_law_275 ?_
        refine aw_ti (nI_add (6 * t) 3) ?_
        refine va_sld hx hb hX hbl hbA hS (i := (nI ((6 * t) + 3))) (vp_in_nI (by omega) (by omega)) d_La_law_276 ?_
        refine aw_ti (y := s3) (by rw [nI_clamp (by omega)]; exact hs3.symm) ?_
        refine lv_i2l hx hb d_La_law_277 rfl ?_
        refine ag_topl (fun y87 ey87 => ?_)
        refine lv_bipush (v := nI 32) hx hb d_La_law_278 (by decide +kernel) ?_
        refine lv_lshl hx hb d_La_law_280 rfl ?_
        refine ag_topl (fun y88 ey88 => ?_)
        refine lv_aload_n hx hb d_La_law_281 rfl (lv_at hl 0 rfl) ?_
        refine lv_iload hx hb d_La_law_282 (lv_at hl 4 rfl) ?_
        refine lv_iconst (v := nI 4) hx hb d_La_law_284 (by decide +kernel) ?_
        refine lv_iadd hx hb d_La_law_285 ?_
        refine aw_ti (nI_add (6 * t) 4) ?_
        refine va_sld hx hb hX hbl hbA hS (i := (nI ((6 * t) + 4))) (vp_in_nI (by omega) (by omega)) d_La_law_286 ?_
        refine aw_ti (y := s4) (by rw [nI_clamp (by omega)]; exact hs4.symm) ?_
        refine lv_i2l hx hb d_La_law_287 rfl ?_
        refine ag_topl (fun y89 ey89 => ?_)
        refine lv_ldc2 (v := 4294967295) hx hb hown (hG _ gw_13_3) d_La_law_288 ?_
        refine lv_land hx hb d_La_law_291 ?_
        refine ag_topl (fun y90 ey90 => ?_)
        refine lv_lor hx hb d_La_law_292 ?_
        refine ag_topl (fun y91 ey91 => ?_)
        refine va_calli (vx_runSW (As := [.ref (aw_r ad 0), .int c0, .int k0, .long y91]) (rest := []) ⟨hx, hb, hml, hown, hG⟩ (k_La_modeXcV l hst D g ad N0 zG zO zX zY zA zB zM zI zL zK zN zF zQ c0 k0 y91 hc) (aw_wW 4 hG gw_5_23 gw_5_21 gw_0_0 gw_5_22 rfl rfl hd_La_mode ⟨Nat.le_of_ble_eq_true rfl, Nat.le_of_ble_eq_true rfl⟩) (ag_qS hP hD hSh hU hS) rfl rfl hl.1 rfl (lv_room (Nat.le_of_ble_eq_true rfl)) d_La_law_293 ⟨by omega, by omega⟩) hS (fun _ _ h => h) (fun _ h => h) ?_
        clear hP hD hSh hS
        intro x92 u8 t8 H locs ht _ ex92 hB _ _ hS
        obtain ⟨L, hP, hD, hSh⟩ := hB
        rw [ht] at hP
        clear ht
        subst ex92
        refine lv_istore hx hb d_La_law_296 hl (by decide) rfl (fun ls hl => ?_)
        have hl : lv_has ls 8 [(5, .int (nI 1)), (0, .ref b), (1, .ref (aw_r ad 0)), (2, .ref (aw_m ad 0)), (3, .ref (aw_o ad)), (4, .int (nI (6 * t)))] := hl
        refine lv_aload_n hx hb d_La_law_298 rfl (lv_at hl 3 rfl) ?_
        refine lv_aload_n hx hb d_La_law_299 rfl (lv_at hl 1 rfl) ?_
        refine lv_iload hx hb d_La_law_300 (lv_at hl 5 rfl) ?_
        refine lv_iconst (v := nI 1) hx hb d_La_law_302 (by decide +kernel) ?_
        refine lv_iadd hx hb d_La_law_303 ?_
        refine aw_ti (nI_add (6 * t) 1) ?_
        refine va_sld hx hb hX hbl hbA hS (i := (nI ((6 * t) + 1))) (vp_in_nI (by omega) (by omega)) d_La_law_304 ?_
        refine aw_ti (y := c0) (by rw [nI_clamp (by omega)]; exact hc0.symm) ?_
        refine lv_aload_n hx hb d_La_law_305 rfl (lv_at hl 1 rfl) ?_
        refine lv_iload hx hb d_La_law_306 (lv_at hl 5 rfl) ?_
        refine lv_iconst (v := nI 2) hx hb d_La_law_308 (by decide +kernel) ?_
        refine lv_iadd hx hb d_La_law_309 ?_
        refine aw_ti (nI_add (6 * t) 2) ?_
        refine va_sld hx hb hX hbl hbA hS (i := (nI ((6 * t) + 2))) (vp_in_nI (by omega) (by omega)) d_La_law_310 ?_
        refine aw_ti (y := k0) (by rw [nI_clamp (by omega)]; exact hk0.symm) ?_
        refine lv_aload_n hx hb d_La_law_311 rfl (lv_at hl 1 rfl) ?_
        refine lv_iload hx hb d_La_law_312 (lv_at hl 5 rfl) ?_
        refine lv_iconst (v := nI 3) hx hb d_La_law_314 (by decide +kernel) ?_
        refine lv_iadd hx hb d_La_law_315 ?_
        refine aw_ti (nI_add (6 * t) 3) ?_
        refine va_sld hx hb hX hbl hbA hS (i := (nI ((6 * t) + 3))) (vp_in_nI (by omega) (by omega)) d_La_law_316 ?_
        refine aw_ti (y := s3) (by rw [nI_clamp (by omega)]; exact hs3.symm) ?_
        refine lv_i2l hx hb d_La_law_317 rfl ?_
        refine ag_topl (fun y93 ey93 => ?_)
        refine lv_bipush (v := nI 32) hx hb d_La_law_318 (by decide +kernel) ?_
        refine lv_lshl hx hb d_La_law_320 rfl ?_
        refine ag_topl (fun y94 ey94 => ?_)
        refine lv_aload_n hx hb d_La_law_321 rfl (lv_at hl 1 rfl) ?_
        refine lv_iload hx hb d_La_law_322 (lv_at hl 5 rfl) ?_
        refine lv_iconst (v := nI 4) hx hb d_La_law_324 (by decide +kernel) ?_
        refine lv_iadd hx hb d_La_law_325 ?_
        refine aw_ti (nI_add (6 * t) 4) ?_
        refine va_sld hx hb hX hbl hbA hS (i := (nI ((6 * t) + 4))) (vp_in_nI (by omega) (by omega)) d_La_law_326 ?_
        refine aw_ti (y := s4) (by rw [nI_clamp (by omega)]; exact hs4.symm) ?_
        refine lv_i2l hx hb d_La_law_327 rfl ?_
        refine ag_topl (fun y95 ey95 => ?_)
        refine lv_ldc2 (v := 4294967295) hx hb hown (hG _ gw_13_3) d_La_law_328 ?_
        refine lv_land hx hb d_La_law_331 ?_
        refine ag_topl (fun y96 ey96 => ?_)
        refine lv_lor hx hb d_La_law_332 ?_
        refine ag_topl (fun y97 ey97 => ?_)
        obtain ⟨_, he98⟩ := zr_M0 hSh
        refine va_callv (va_runV (As := [.int c0, .int k0, .long y97]) (rest := []) ⟨hx, hb, hml, hown, hG⟩ (k_Mo_modeXcV l D g ad N0 zG zO zX zY zA zB zM zI zL zK zN zF zQ c0 k0 y97 hc) (aw_wV 3 hG gw_10_45 gw_10_42 gw_0_10 gw_10_43 gw_10_44 rfl rfl hd_Mo_mode ⟨Nat.le_of_ble_eq_true rfl, Nat.le_of_ble_eq_true rfl⟩) (ag_qV (va_recv hK hP rfl he98) hP hD hSh hU hS) rfl rfl hl.1 rfl (lv_room (Nat.le_of_ble_eq_true rfl)) d_La_law_333 ⟨by omega, by omega⟩) hS (fun _ _ h => h) (fun _ h => h) ?_
        clear hP hD hSh hS he98
        intro u8 t8 H locs ht _ _ hB _ _ hS
        obtain ⟨L, hP, hD, hSh⟩ := hB
        rw [ht] at hP
        clear ht
        refine lv_aload_n hx hb d_La_law_336 rfl (lv_at hl 3 rfl) ?_
        obtain ⟨_, he99⟩ := zr_M0 hSh
        refine va_calli (va_runV (As := []) (rest := []) ⟨hx, hb, hml, hown, hG⟩ (k_Mo_thrownV l D g ad N0 zG zO zX zY zA zB zM zI zL zK zN (nI 1) zQ) (aw_wV 0 hG gw_10_27 gw_10_24 gw_0_10 gw_10_25 gw_10_26 rfl rfl hd_Mo_thrown ⟨Nat.le_of_ble_eq_true rfl, Nat.le_of_ble_eq_true rfl⟩) (ag_qV (va_recv hK hP rfl he99) hP hD hSh hU hS) rfl rfl hl.1 rfl (lv_room (Nat.le_of_ble_eq_true rfl)) d_La_law_337 ⟨by omega, by omega⟩) hS (fun _ _ h => h) (fun _ h => h) (fun x100 u8 t8 H locs ht _ ex100 hB _ _ hS => ?_)
        obtain ⟨L, hP, hD, hSh⟩ := hB
        rw [ht] at hP
        clear ht
        have ex100 : x100 = nI 1 := ex100
        subst ex100
        refine lv_iload hx hb d_La_law_340 (lv_at hl 0 rfl) ?_
        refine lv_icmp_eq (tgt := 347) hx hb d_La_law_342 (by decide) (fun _ => ?_) (fun h => absurd (by decide +kernel) h)
        refine lv_goto (tgt := 837) hx hb d_La_law_347 (by decide) ?_
        refine lv_iinc (k := 5) (v := nI (6 * t + 6)) hx hb d_La_law_837 hl rfl (aw_inc (6 * t) 6 6 (by decide +kernel)) (by decide) rfl (fun ls hl => ?_)
        have hl : lv_has ls 8 [(4, .int (nI (6 * t + 6))), (5, .int (nI 1)), (0, .ref b), (1, .ref (aw_r ad 0)), (2, .ref (aw_m ad 0)), (3, .ref (aw_o ad))] := hl
        refine lv_goto (tgt := 23) hx hb d_La_law_840 (by decide) ?_
        have hl := lv_sub hl (l' := [(0, .ref b), (1, .ref (aw_r ad 0)), (2, .ref (aw_m ad 0)), (3, .ref (aw_o ad)), (4, .int (nI (6 * t + 6)))]) [2, 3, 4, 5, 0] rfl
        refine W.widen (k := 85 + (t + 1)) (n := 1246 + 6 * (t + 1)) (by omega) (by omega) ?_
        exact ih (t + 1) zG zO zX zY zA zB zM zI zL zK zN (nI 1) zQ _ _ L ls (by omega) hP hD hSh hR hS (by first | exact hl | simpa [Nat.mul_add] using hl)
      · have hgj := hSh.2.2.2.2.1 j hj
        have hq1 : (zM j).1 = (zG j).1 := by rw [hR.1 j hj]
        have hq2 : (zM j).2 = (zG j).2 := by rw [hR.1 j hj]
        rcases aw_ovr 5 (by decide) k0 with hk | ⟨k, hk, rfl⟩
        · refine lv_aload_n hx hb d_La_law_258 rfl (lv_at hl 1 rfl) ?_
          refine lv_aload_n hx hb d_La_law_259 rfl (lv_at hl 0 rfl) ?_
          refine lv_iload hx hb d_La_law_260 (lv_at hl 4 rfl) ?_
          refine lv_iconst (v := nI 1) hx hb d_La_law_262 (by decide +kernel) ?_
          refine lv_iadd hx hb d_La_law_263 ?_
          refine aw_ti (nI_add (6 * t) 1) ?_
          refine va_sld hx hb hX hbl hbA hS (i := (nI ((6 * t) + 1))) (vp_in_nI (by omega) (by omega)) d_La_law_264 ?_
          refine aw_ti (y := nI j) (by rw [nI_clamp (by omega)]; exact hc0.symm) ?_
          refine lv_aload_n hx hb d_La_law_265 rfl (lv_at hl 0 rfl) ?_
          refine lv_iload hx hb d_La_law_266 (lv_at hl 4 rfl) ?_
          refine lv_iconst (v := nI 2) hx hb d_La_law_268 (by decide +kernel) ?_
          refine lv_iadd hx hb d_La_law_269 ?_
          refine aw_ti (nI_add (6 * t) 2) ?_
          refine va_sld hx hb hX hbl hbA hS (i := (nI ((6 * t) + 2))) (vp_in_nI (by omega) (by omega)) d_La_law_270 ?_
          refine aw_ti (y := k0) (by rw [nI_clamp (by omega)]; exact hk0.symm) ?_
          refine lv_aload_n hx hb d_La_law_271 rfl (lv_at hl 0 rfl) ?_
          refine lv_iload hx hb d_La_law_272 (lv_at hl 4 rfl) ?_
          refine lv_iconst (v := nI 3) hx hb d_La_law_274 (by decide +kernel) ?_
          refine lv_iadd hx hb d_La_law_275 ?_
          refine aw_ti (nI_add (6 * t) 3) ?_
          refine va_sld hx hb hX hbl hbA hS (i := (nI ((6 * t) + 3))) (vp_in_nI (by omega) (by omega)) d_La_law_276 ?_
          refine aw_ti (y := s3) (by rw [nI_clamp (by omega)]; exact hs3.symm) ?_
          refine lv_i2l hx hb d_La_law_277 rfl ?_
          refine ag_topl (fun y101 ey101 => ?_)
          refine lv_bipush (v := nI 32) hx hb d_La_law_278 (by decide +kernel) ?_
          refine lv_lshl hx hb d_La_law_280 rfl ?_
          refine ag_topl (fun y102 ey102 => ?_)
          refine lv_aload_n hx hb d_La_law_281 rfl (lv_at hl 0 rfl) ?_
          refine lv_iload hx hb d_La_law_282 (lv_at hl 4 rfl) ?_
          refine lv_iconst (v := nI 4) hx hb d_La_law_284 (by decide +kernel) ?_
          refine lv_iadd hx hb d_La_law_285 ?_
          refine aw_ti (nI_add (6 * t) 4) ?_
          refine va_sld hx hb hX hbl hbA hS (i := (nI ((6 * t) + 4))) (vp_in_nI (by omega) (by omega)) d_La_law_286 ?_
          refine aw_ti (y := s4) (by rw [nI_clamp (by omega)]; exact hs4.symm) ?_
          refine lv_i2l hx hb d_La_law_287 rfl ?_
          refine ag_topl (fun y103 ey103 => ?_)
          refine lv_ldc2 (v := 4294967295) hx hb hown (hG _ gw_13_3) d_La_law_288 ?_
          refine lv_land hx hb d_La_law_291 ?_
          refine ag_topl (fun y104 ey104 => ?_)
          refine lv_lor hx hb d_La_law_292 ?_
          refine ag_topl (fun y105 ey105 => ?_)
          refine va_calli (vx_runSW (As := [.ref (aw_r ad 0), .int (nI j), .int k0, .long y105]) (rest := []) ⟨hx, hb, hml, hown, hG⟩ (k_La_modeXaV l hst D g ad N0 zG zO zX zY zA zB zM zI zL zK zN zF zQ j k0 y105 hj hk) (aw_wW 4 hG gw_5_23 gw_5_21 gw_0_0 gw_5_22 rfl rfl hd_La_mode ⟨Nat.le_of_ble_eq_true rfl, Nat.le_of_ble_eq_true rfl⟩) (ag_qS hP hD hSh hU hS) rfl rfl hl.1 rfl (lv_room (Nat.le_of_ble_eq_true rfl)) d_La_law_293 ⟨by omega, by omega⟩) hS (fun _ _ h => h) (fun _ h => h) ?_
          clear hP hD hSh hS
          intro x106 u8 t8 H locs ht _ ex106 hB _ _ hS
          obtain ⟨L, hP, hD, hSh⟩ := hB
          rw [ht] at hP
          clear ht
          subst ex106
          refine lv_istore hx hb d_La_law_296 hl (by decide) rfl (fun ls hl => ?_)
          have hl : lv_has ls 8 [(5, .int (nI 2)), (0, .ref b), (1, .ref (aw_r ad 0)), (2, .ref (aw_m ad 0)), (3, .ref (aw_o ad)), (4, .int (nI (6 * t)))] := hl
          refine lv_aload_n hx hb d_La_law_298 rfl (lv_at hl 3 rfl) ?_
          refine lv_aload_n hx hb d_La_law_299 rfl (lv_at hl 1 rfl) ?_
          refine lv_iload hx hb d_La_law_300 (lv_at hl 5 rfl) ?_
          refine lv_iconst (v := nI 1) hx hb d_La_law_302 (by decide +kernel) ?_
          refine lv_iadd hx hb d_La_law_303 ?_
          refine aw_ti (nI_add (6 * t) 1) ?_
          refine va_sld hx hb hX hbl hbA hS (i := (nI ((6 * t) + 1))) (vp_in_nI (by omega) (by omega)) d_La_law_304 ?_
          refine aw_ti (y := nI j) (by rw [nI_clamp (by omega)]; exact hc0.symm) ?_
          refine lv_aload_n hx hb d_La_law_305 rfl (lv_at hl 1 rfl) ?_
          refine lv_iload hx hb d_La_law_306 (lv_at hl 5 rfl) ?_
          refine lv_iconst (v := nI 2) hx hb d_La_law_308 (by decide +kernel) ?_
          refine lv_iadd hx hb d_La_law_309 ?_
          refine aw_ti (nI_add (6 * t) 2) ?_
          refine va_sld hx hb hX hbl hbA hS (i := (nI ((6 * t) + 2))) (vp_in_nI (by omega) (by omega)) d_La_law_310 ?_
          refine aw_ti (y := k0) (by rw [nI_clamp (by omega)]; exact hk0.symm) ?_
          refine lv_aload_n hx hb d_La_law_311 rfl (lv_at hl 1 rfl) ?_
          refine lv_iload hx hb d_La_law_312 (lv_at hl 5 rfl) ?_
          refine lv_iconst (v := nI 3) hx hb d_La_law_314 (by decide +kernel) ?_
          refine lv_iadd hx hb d_La_law_315 ?_
          refine aw_ti (nI_add (6 * t) 3) ?_
          refine va_sld hx hb hX hbl hbA hS (i := (nI ((6 * t) + 3))) (vp_in_nI (by omega) (by omega)) d_La_law_316 ?_
          refine aw_ti (y := s3) (by rw [nI_clamp (by omega)]; exact hs3.symm) ?_
          refine lv_i2l hx hb d_La_law_317 rfl ?_
          refine ag_topl (fun y107 ey107 => ?_)
          refine lv_bipush (v := nI 32) hx hb d_La_law_318 (by decide +kernel) ?_
          refine lv_lshl hx hb d_La_law_320 rfl ?_
          refine ag_topl (fun y108 ey108 => ?_)
          refine lv_aload_n hx hb d_La_law_321 rfl (lv_at hl 1 rfl) ?_
          refine lv_iload hx hb d_La_law_322 (lv_at hl 5 rfl) ?_
          refine lv_iconst (v := nI 4) hx hb d_La_law_324 (by decide +kernel) ?_
          refine lv_iadd hx hb d_La_law_325 ?_
          refine aw_ti (nI_add (6 * t) 4) ?_
          refine va_sld hx hb hX hbl hbA hS (i := (nI ((6 * t) + 4))) (vp_in_nI (by omega) (by omega)) d_La_law_326 ?_
          refine aw_ti (y := s4) (by rw [nI_clamp (by omega)]; exact hs4.symm) ?_
          refine lv_i2l hx hb d_La_law_327 rfl ?_
          refine ag_topl (fun y109 ey109 => ?_)
          refine lv_ldc2 (v := 4294967295) hx hb hown (hG _ gw_13_3) d_La_law_328 ?_
          refine lv_land hx hb d_La_law_331 ?_
          refine ag_topl (fun y110 ey110 => ?_)
          refine lv_lor hx hb d_La_law_332 ?_
          refine ag_topl (fun y111 ey111 => ?_)
          obtain ⟨_, he112⟩ := zr_M0 hSh
          refine va_callv (va_runV (As := [.int (nI j), .int k0, .long y111]) (rest := []) ⟨hx, hb, hml, hown, hG⟩ (k_Mo_modeXaV l D g ad N0 zG zO zX zY zA zB zM zI zL zK zN zF zQ j k0 y111 hj hk) (aw_wV 3 hG gw_10_45 gw_10_42 gw_0_10 gw_10_43 gw_10_44 rfl rfl hd_Mo_mode ⟨Nat.le_of_ble_eq_true rfl, Nat.le_of_ble_eq_true rfl⟩) (ag_qV (va_recv hK hP rfl he112) hP hD hSh hU hS) rfl rfl hl.1 rfl (lv_room (Nat.le_of_ble_eq_true rfl)) d_La_law_333 ⟨by omega, by omega⟩) hS (fun _ _ h => h) (fun _ h => h) ?_
          clear hP hD hSh hS he112
          intro u8 t8 H locs ht _ _ hB _ _ hS
          obtain ⟨L, hP, hD, hSh⟩ := hB
          rw [ht] at hP
          clear ht
          refine lv_aload_n hx hb d_La_law_336 rfl (lv_at hl 3 rfl) ?_
          obtain ⟨_, he113⟩ := zr_M0 hSh
          refine va_calli (va_runV (As := []) (rest := []) ⟨hx, hb, hml, hown, hG⟩ (k_Mo_thrownV l D g ad N0 zG zO zX zY zA zB zM zI zL zK zN (nI 2) zQ) (aw_wV 0 hG gw_10_27 gw_10_24 gw_0_10 gw_10_25 gw_10_26 rfl rfl hd_Mo_thrown ⟨Nat.le_of_ble_eq_true rfl, Nat.le_of_ble_eq_true rfl⟩) (ag_qV (va_recv hK hP rfl he113) hP hD hSh hU hS) rfl rfl hl.1 rfl (lv_room (Nat.le_of_ble_eq_true rfl)) d_La_law_337 ⟨by omega, by omega⟩) hS (fun _ _ h => h) (fun _ h => h) (fun x114 u8 t8 H locs ht _ ex114 hB _ _ hS => ?_)
          obtain ⟨L, hP, hD, hSh⟩ := hB
          rw [ht] at hP
          clear ht
          have ex114 : x114 = nI 2 := ex114
          subst ex114
          refine lv_iload hx hb d_La_law_340 (lv_at hl 0 rfl) ?_
          refine lv_icmp_eq (tgt := 347) hx hb d_La_law_342 (by decide) (fun _ => ?_) (fun h => absurd (by decide +kernel) h)
          refine lv_goto (tgt := 837) hx hb d_La_law_347 (by decide) ?_
          refine lv_iinc (k := 5) (v := nI (6 * t + 6)) hx hb d_La_law_837 hl rfl (aw_inc (6 * t) 6 6 (by decide +kernel)) (by decide) rfl (fun ls hl => ?_)
          have hl : lv_has ls 8 [(4, .int (nI (6 * t + 6))), (5, .int (nI 2)), (0, .ref b), (1, .ref (aw_r ad 0)), (2, .ref (aw_m ad 0)), (3, .ref (aw_o ad))] := hl
          refine lv_goto (tgt := 23) hx hb d_La_law_840 (by decide) ?_
          have hl := lv_sub hl (l' := [(0, .ref b), (1, .ref (aw_r ad 0)), (2, .ref (aw_m ad 0)), (3, .ref (aw_o ad)), (4, .int (nI (6 * t + 6)))]) [2, 3, 4, 5, 0] rfl
          refine W.widen (k := 85 + (t + 1)) (n := 1246 + 6 * (t + 1)) (by omega) (by omega) ?_
          exact ih (t + 1) zG zO zX zY zA zB zM zI zL zK zN (nI 2) zQ _ _ L ls (by omega) hP hD hSh hR hS (by first | exact hl | simpa [Nat.mul_add] using hl)
        · by_cases hs : 2 ≤ (zG j).1
          · refine lv_aload_n hx hb d_La_law_258 rfl (lv_at hl 1 rfl) ?_
            refine lv_aload_n hx hb d_La_law_259 rfl (lv_at hl 0 rfl) ?_
            refine lv_iload hx hb d_La_law_260 (lv_at hl 4 rfl) ?_
            refine lv_iconst (v := nI 1) hx hb d_La_law_262 (by decide +kernel) ?_
            refine lv_iadd hx hb d_La_law_263 ?_
            refine aw_ti (nI_add (6 * t) 1) ?_
            refine va_sld hx hb hX hbl hbA hS (i := (nI ((6 * t) + 1))) (vp_in_nI (by omega) (by omega)) d_La_law_264 ?_
            refine aw_ti (y := nI j) (by rw [nI_clamp (by omega)]; exact hc0.symm) ?_
            refine lv_aload_n hx hb d_La_law_265 rfl (lv_at hl 0 rfl) ?_
            refine lv_iload hx hb d_La_law_266 (lv_at hl 4 rfl) ?_
            refine lv_iconst (v := nI 2) hx hb d_La_law_268 (by decide +kernel) ?_
            refine lv_iadd hx hb d_La_law_269 ?_
            refine aw_ti (nI_add (6 * t) 2) ?_
            refine va_sld hx hb hX hbl hbA hS (i := (nI ((6 * t) + 2))) (vp_in_nI (by omega) (by omega)) d_La_law_270 ?_
            refine aw_ti (y := nI k) (by rw [nI_clamp (by omega)]; exact hk0.symm) ?_
            refine lv_aload_n hx hb d_La_law_271 rfl (lv_at hl 0 rfl) ?_
            refine lv_iload hx hb d_La_law_272 (lv_at hl 4 rfl) ?_
            refine lv_iconst (v := nI 3) hx hb d_La_law_274 (by decide +kernel) ?_
            refine lv_iadd hx hb d_La_law_275 ?_
            refine aw_ti (nI_add (6 * t) 3) ?_
            refine va_sld hx hb hX hbl hbA hS (i := (nI ((6 * t) + 3))) (vp_in_nI (by omega) (by omega)) d_La_law_276 ?_
            refine aw_ti (y := s3) (by rw [nI_clamp (by omega)]; exact hs3.symm) ?_
            refine lv_i2l hx hb d_La_law_277 rfl ?_
            refine ag_topl (fun y115 ey115 => ?_)
            refine lv_bipush (v := nI 32) hx hb d_La_law_278 (by decide +kernel) ?_
            refine lv_lshl hx hb d_La_law_280 rfl ?_
            refine ag_topl (fun y116 ey116 => ?_)
            refine lv_aload_n hx hb d_La_law_281 rfl (lv_at hl 0 rfl) ?_
            refine lv_iload hx hb d_La_law_282 (lv_at hl 4 rfl) ?_
            refine lv_iconst (v := nI 4) hx hb d_La_law_284 (by decide +kernel) ?_
            refine lv_iadd hx hb d_La_law_285 ?_
            refine aw_ti (nI_add (6 * t) 4) ?_
            refine va_sld hx hb hX hbl hbA hS (i := (nI ((6 * t) + 4))) (vp_in_nI (by omega) (by omega)) d_La_law_286 ?_
            refine aw_ti (y := s4) (by rw [nI_clamp (by omega)]; exact hs4.symm) ?_
            refine lv_i2l hx hb d_La_law_287 rfl ?_
            refine ag_topl (fun y117 ey117 => ?_)
            refine lv_ldc2 (v := 4294967295) hx hb hown (hG _ gw_13_3) d_La_law_288 ?_
            refine lv_land hx hb d_La_law_291 ?_
            refine ag_topl (fun y118 ey118 => ?_)
            refine lv_lor hx hb d_La_law_292 ?_
            refine ag_topl (fun y119 ey119 => ?_)
            refine va_calli (vx_runSW (As := [.ref (aw_r ad 0), .int (nI j), .int (nI k), .long y119]) (rest := []) ⟨hx, hb, hml, hown, hG⟩ (k_La_mode1V l hst D g ad N0 zG zO zX zY zA zB zM zI zL zK zN zF zQ j k y119 hj (by omega) (by omega)) (aw_wW 4 hG gw_5_23 gw_5_21 gw_0_0 gw_5_22 rfl rfl hd_La_mode ⟨Nat.le_of_ble_eq_true rfl, Nat.le_of_ble_eq_true rfl⟩) (ag_qS hP hD hSh hU hS) rfl rfl hl.1 rfl (lv_room (Nat.le_of_ble_eq_true rfl)) d_La_law_293 ⟨by omega, by omega⟩) hS (fun _ _ h => h) (fun _ h => h) ?_
            clear hP hD hSh hS
            intro x120 u8 t8 H locs ht _ ex120 hB _ _ hS
            obtain ⟨L, hP, hD, hSh⟩ := hB
            rw [ht] at hP
            clear ht
            subst ex120
            obtain ⟨zG121, ezG121⟩ : ∃ z : Nat → Nat × Nat, v_La_mode1V_zG zG zX zY j k y119 = z := ⟨_, rfl⟩
            rw [ezG121] at hSh
            obtain ⟨zX122, ezX122⟩ : ∃ z : Nat → Nat → Int64, v_La_mode1V_zX zG zX zY j k y119 = z := ⟨_, rfl⟩
            rw [ezX122] at hSh
            obtain ⟨zY123, ezY123⟩ : ∃ z : Nat → Nat → Int32, v_La_mode1V_zY zG zX zY j k y119 = z := ⟨_, rfl⟩
            rw [ezY123] at hSh
            refine lv_istore hx hb d_La_law_296 hl (by decide) rfl (fun ls hl => ?_)
            have hl : lv_has ls 8 [(5, .int (nI 0)), (0, .ref b), (1, .ref (aw_r ad 0)), (2, .ref (aw_m ad 0)), (3, .ref (aw_o ad)), (4, .int (nI (6 * t)))] := hl
            refine lv_aload_n hx hb d_La_law_298 rfl (lv_at hl 3 rfl) ?_
            refine lv_aload_n hx hb d_La_law_299 rfl (lv_at hl 1 rfl) ?_
            refine lv_iload hx hb d_La_law_300 (lv_at hl 5 rfl) ?_
            refine lv_iconst (v := nI 1) hx hb d_La_law_302 (by decide +kernel) ?_
            refine lv_iadd hx hb d_La_law_303 ?_
            refine aw_ti (nI_add (6 * t) 1) ?_
            refine va_sld hx hb hX hbl hbA hS (i := (nI ((6 * t) + 1))) (vp_in_nI (by omega) (by omega)) d_La_law_304 ?_
            refine aw_ti (y := nI j) (by rw [nI_clamp (by omega)]; exact hc0.symm) ?_
            refine lv_aload_n hx hb d_La_law_305 rfl (lv_at hl 1 rfl) ?_
            refine lv_iload hx hb d_La_law_306 (lv_at hl 5 rfl) ?_
            refine lv_iconst (v := nI 2) hx hb d_La_law_308 (by decide +kernel) ?_
            refine lv_iadd hx hb d_La_law_309 ?_
            refine aw_ti (nI_add (6 * t) 2) ?_
            refine va_sld hx hb hX hbl hbA hS (i := (nI ((6 * t) + 2))) (vp_in_nI (by omega) (by omega)) d_La_law_310 ?_
            refine aw_ti (y := nI k) (by rw [nI_clamp (by omega)]; exact hk0.symm) ?_
            refine lv_aload_n hx hb d_La_law_311 rfl (lv_at hl 1 rfl) ?_
            refine lv_iload hx hb d_La_law_312 (lv_at hl 5 rfl) ?_
            refine lv_iconst (v := nI 3) hx hb d_La_law_314 (by decide +kernel) ?_
            refine lv_iadd hx hb d_La_law_315 ?_
            refine aw_ti (nI_add (6 * t) 3) ?_
            refine va_sld hx hb hX hbl hbA hS (i := (nI ((6 * t) + 3))) (vp_in_nI (by omega) (by omega)) d_La_law_316 ?_
            refine aw_ti (y := s3) (by rw [nI_clamp (by omega)]; exact hs3.symm) ?_
            refine lv_i2l hx hb d_La_law_317 rfl ?_
            refine ag_topl (fun y124 ey124 => ?_)
            refine lv_bipush (v := nI 32) hx hb d_La_law_318 (by decide +kernel) ?_
            refine lv_lshl hx hb d_La_law_320 rfl ?_
            refine ag_topl (fun y125 ey125 => ?_)
            refine lv_aload_n hx hb d_La_law_321 rfl (lv_at hl 1 rfl) ?_
            refine lv_iload hx hb d_La_law_322 (lv_at hl 5 rfl) ?_
            refine lv_iconst (v := nI 4) hx hb d_La_law_324 (by decide +kernel) ?_
            refine lv_iadd hx hb d_La_law_325 ?_
            refine aw_ti (nI_add (6 * t) 4) ?_
            refine va_sld hx hb hX hbl hbA hS (i := (nI ((6 * t) + 4))) (vp_in_nI (by omega) (by omega)) d_La_law_326 ?_
            refine aw_ti (y := s4) (by rw [nI_clamp (by omega)]; exact hs4.symm) ?_
            refine lv_i2l hx hb d_La_law_327 rfl ?_
            refine ag_topl (fun y126 ey126 => ?_)
            refine lv_ldc2 (v := 4294967295) hx hb hown (hG _ gw_13_3) d_La_law_328 ?_
            refine lv_land hx hb d_La_law_331 ?_
            refine ag_topl (fun y127 ey127 => ?_)
            refine lv_lor hx hb d_La_law_332 ?_
            refine ag_topl (fun y128 ey128 => ?_)
            obtain ⟨_, he129⟩ := zr_M0 hSh
            refine va_callv (va_runV (As := [.int (nI j), .int (nI k), .long y128]) (rest := []) ⟨hx, hb, hml, hown, hG⟩ (k_Mo_mode1V l D g ad N0 zG121 zO zX122 zY123 zA zB zM zI zL zK zN zF zQ j k y128 hj (by omega) (by omega)) (aw_wV 3 hG gw_10_45 gw_10_42 gw_0_10 gw_10_43 gw_10_44 rfl rfl hd_Mo_mode ⟨Nat.le_of_ble_eq_true rfl, Nat.le_of_ble_eq_true rfl⟩) (ag_qV (va_recv hK hP rfl he129) hP hD hSh hU hS) rfl rfl hl.1 rfl (lv_room (Nat.le_of_ble_eq_true rfl)) d_La_law_333 ⟨by omega, by omega⟩) hS (fun _ _ h => h) (fun _ h => h) ?_
            clear hP hD hSh hS he129
            intro u8 t8 H locs ht _ _ hB _ _ hS
            obtain ⟨L, hP, hD, hSh⟩ := hB
            rw [ht] at hP
            clear ht
            obtain ⟨zM130, ezM130⟩ : ∃ z : Nat → Nat × Nat, v_Mo_mode1V_zM zM zI zL j k y128 = z := ⟨_, rfl⟩
            rw [ezM130] at hSh
            obtain ⟨zI131, ezI131⟩ : ∃ z : Nat → Nat → Int32, v_Mo_mode1V_zI zM zI zL j k y128 = z := ⟨_, rfl⟩
            rw [ezI131] at hSh
            obtain ⟨zL132, ezL132⟩ : ∃ z : Nat → Nat → Int64, v_Mo_mode1V_zL zM zI zL j k y128 = z := ⟨_, rfl⟩
            rw [ezL132] at hSh
            refine lv_aload_n hx hb d_La_law_336 rfl (lv_at hl 3 rfl) ?_
            obtain ⟨_, he133⟩ := zr_M0 hSh
            refine va_calli (va_runV (As := []) (rest := []) ⟨hx, hb, hml, hown, hG⟩ (k_Mo_thrownV l D g ad N0 zG121 zO zX122 zY123 zA zB zM130 zI131 zL132 zK zN (nI 0) zQ) (aw_wV 0 hG gw_10_27 gw_10_24 gw_0_10 gw_10_25 gw_10_26 rfl rfl hd_Mo_thrown ⟨Nat.le_of_ble_eq_true rfl, Nat.le_of_ble_eq_true rfl⟩) (ag_qV (va_recv hK hP rfl he133) hP hD hSh hU hS) rfl rfl hl.1 rfl (lv_room (Nat.le_of_ble_eq_true rfl)) d_La_law_337 ⟨by omega, by omega⟩) hS (fun _ _ h => h) (fun _ h => h) (fun x134 u8 t8 H locs ht _ ex134 hB _ _ hS => ?_)
            obtain ⟨L, hP, hD, hSh⟩ := hB
            rw [ht] at hP
            clear ht
            have ex134 : x134 = nI 0 := ex134
            subst ex134
            refine lv_iload hx hb d_La_law_340 (lv_at hl 0 rfl) ?_
            refine lv_icmp_eq (tgt := 347) hx hb d_La_law_342 (by decide) (fun _ => ?_) (fun h => absurd (by decide +kernel) h)
            refine lv_goto (tgt := 837) hx hb d_La_law_347 (by decide) ?_
            refine lv_iinc (k := 5) (v := nI (6 * t + 6)) hx hb d_La_law_837 hl rfl (aw_inc (6 * t) 6 6 (by decide +kernel)) (by decide) rfl (fun ls hl => ?_)
            have hl : lv_has ls 8 [(4, .int (nI (6 * t + 6))), (5, .int (nI 0)), (0, .ref b), (1, .ref (aw_r ad 0)), (2, .ref (aw_m ad 0)), (3, .ref (aw_o ad))] := hl
            refine lv_goto (tgt := 23) hx hb d_La_law_840 (by decide) ?_
            have hl := lv_sub hl (l' := [(0, .ref b), (1, .ref (aw_r ad 0)), (2, .ref (aw_m ad 0)), (3, .ref (aw_o ad)), (4, .int (nI (6 * t + 6)))]) [2, 3, 4, 5, 0] rfl
            refine W.widen (k := 85 + (t + 1)) (n := 1246 + 6 * (t + 1)) (by omega) (by omega) ?_
            have hR : az_R zG121 zO zX122 zY123 zA zB zM130 zI131 zL132 := by
              subst ezL132 ezI131 ezM130 ey128 ey127 ey126 ey125 ey124 ezY123 ezX122 ezG121 ey119 ey118 ey117 ey116 ey115
              exact r_mode1 hR hj hk hs
            exact ih (t + 1) zG121 zO zX122 zY123 zA zB zM130 zI131 zL132 zK zN (nI 0) zQ _ _ L ls (by omega) hP hD hSh hR hS (by first | exact hl | simpa [Nat.mul_add] using hl)
          · refine lv_aload_n hx hb d_La_law_258 rfl (lv_at hl 1 rfl) ?_
            refine lv_aload_n hx hb d_La_law_259 rfl (lv_at hl 0 rfl) ?_
            refine lv_iload hx hb d_La_law_260 (lv_at hl 4 rfl) ?_
            refine lv_iconst (v := nI 1) hx hb d_La_law_262 (by decide +kernel) ?_
            refine lv_iadd hx hb d_La_law_263 ?_
            refine aw_ti (nI_add (6 * t) 1) ?_
            refine va_sld hx hb hX hbl hbA hS (i := (nI ((6 * t) + 1))) (vp_in_nI (by omega) (by omega)) d_La_law_264 ?_
            refine aw_ti (y := nI j) (by rw [nI_clamp (by omega)]; exact hc0.symm) ?_
            refine lv_aload_n hx hb d_La_law_265 rfl (lv_at hl 0 rfl) ?_
            refine lv_iload hx hb d_La_law_266 (lv_at hl 4 rfl) ?_
            refine lv_iconst (v := nI 2) hx hb d_La_law_268 (by decide +kernel) ?_
            refine lv_iadd hx hb d_La_law_269 ?_
            refine aw_ti (nI_add (6 * t) 2) ?_
            refine va_sld hx hb hX hbl hbA hS (i := (nI ((6 * t) + 2))) (vp_in_nI (by omega) (by omega)) d_La_law_270 ?_
            refine aw_ti (y := nI k) (by rw [nI_clamp (by omega)]; exact hk0.symm) ?_
            refine lv_aload_n hx hb d_La_law_271 rfl (lv_at hl 0 rfl) ?_
            refine lv_iload hx hb d_La_law_272 (lv_at hl 4 rfl) ?_
            refine lv_iconst (v := nI 3) hx hb d_La_law_274 (by decide +kernel) ?_
            refine lv_iadd hx hb d_La_law_275 ?_
            refine aw_ti (nI_add (6 * t) 3) ?_
            refine va_sld hx hb hX hbl hbA hS (i := (nI ((6 * t) + 3))) (vp_in_nI (by omega) (by omega)) d_La_law_276 ?_
            refine aw_ti (y := s3) (by rw [nI_clamp (by omega)]; exact hs3.symm) ?_
            refine lv_i2l hx hb d_La_law_277 rfl ?_
            refine ag_topl (fun y135 ey135 => ?_)
            refine lv_bipush (v := nI 32) hx hb d_La_law_278 (by decide +kernel) ?_
            refine lv_lshl hx hb d_La_law_280 rfl ?_
            refine ag_topl (fun y136 ey136 => ?_)
            refine lv_aload_n hx hb d_La_law_281 rfl (lv_at hl 0 rfl) ?_
            refine lv_iload hx hb d_La_law_282 (lv_at hl 4 rfl) ?_
            refine lv_iconst (v := nI 4) hx hb d_La_law_284 (by decide +kernel) ?_
            refine lv_iadd hx hb d_La_law_285 ?_
            refine aw_ti (nI_add (6 * t) 4) ?_
            refine va_sld hx hb hX hbl hbA hS (i := (nI ((6 * t) + 4))) (vp_in_nI (by omega) (by omega)) d_La_law_286 ?_
            refine aw_ti (y := s4) (by rw [nI_clamp (by omega)]; exact hs4.symm) ?_
            refine lv_i2l hx hb d_La_law_287 rfl ?_
            refine ag_topl (fun y137 ey137 => ?_)
            refine lv_ldc2 (v := 4294967295) hx hb hown (hG _ gw_13_3) d_La_law_288 ?_
            refine lv_land hx hb d_La_law_291 ?_
            refine ag_topl (fun y138 ey138 => ?_)
            refine lv_lor hx hb d_La_law_292 ?_
            refine ag_topl (fun y139 ey139 => ?_)
            refine va_calli (vx_runSW (As := [.ref (aw_r ad 0), .int (nI j), .int (nI k), .long y139]) (rest := []) ⟨hx, hb, hml, hown, hG⟩ (k_La_modeXsV l hst D g ad N0 zG zO zX zY zA zB zM zI zL zK zN zF zQ j k y139 hj (by omega) (by omega)) (aw_wW 4 hG gw_5_23 gw_5_21 gw_0_0 gw_5_22 rfl rfl hd_La_mode ⟨Nat.le_of_ble_eq_true rfl, Nat.le_of_ble_eq_true rfl⟩) (ag_qS hP hD hSh hU hS) rfl rfl hl.1 rfl (lv_room (Nat.le_of_ble_eq_true rfl)) d_La_law_293 ⟨by omega, by omega⟩) hS (fun _ _ h => h) (fun _ h => h) ?_
            clear hP hD hSh hS
            intro x140 u8 t8 H locs ht _ ex140 hB _ _ hS
            obtain ⟨L, hP, hD, hSh⟩ := hB
            rw [ht] at hP
            clear ht
            subst ex140
            refine lv_istore hx hb d_La_law_296 hl (by decide) rfl (fun ls hl => ?_)
            have hl : lv_has ls 8 [(5, .int (nI 3)), (0, .ref b), (1, .ref (aw_r ad 0)), (2, .ref (aw_m ad 0)), (3, .ref (aw_o ad)), (4, .int (nI (6 * t)))] := hl
            refine lv_aload_n hx hb d_La_law_298 rfl (lv_at hl 3 rfl) ?_
            refine lv_aload_n hx hb d_La_law_299 rfl (lv_at hl 1 rfl) ?_
            refine lv_iload hx hb d_La_law_300 (lv_at hl 5 rfl) ?_
            refine lv_iconst (v := nI 1) hx hb d_La_law_302 (by decide +kernel) ?_
            refine lv_iadd hx hb d_La_law_303 ?_
            refine aw_ti (nI_add (6 * t) 1) ?_
            refine va_sld hx hb hX hbl hbA hS (i := (nI ((6 * t) + 1))) (vp_in_nI (by omega) (by omega)) d_La_law_304 ?_
            refine aw_ti (y := nI j) (by rw [nI_clamp (by omega)]; exact hc0.symm) ?_
            refine lv_aload_n hx hb d_La_law_305 rfl (lv_at hl 1 rfl) ?_
            refine lv_iload hx hb d_La_law_306 (lv_at hl 5 rfl) ?_
            refine lv_iconst (v := nI 2) hx hb d_La_law_308 (by decide +kernel) ?_
            refine lv_iadd hx hb d_La_law_309 ?_
            refine aw_ti (nI_add (6 * t) 2) ?_
            refine va_sld hx hb hX hbl hbA hS (i := (nI ((6 * t) + 2))) (vp_in_nI (by omega) (by omega)) d_La_law_310 ?_
            refine aw_ti (y := nI k) (by rw [nI_clamp (by omega)]; exact hk0.symm) ?_
            refine lv_aload_n hx hb d_La_law_311 rfl (lv_at hl 1 rfl) ?_
            refine lv_iload hx hb d_La_law_312 (lv_at hl 5 rfl) ?_
            refine lv_iconst (v := nI 3) hx hb d_La_law_314 (by decide +kernel) ?_
            refine lv_iadd hx hb d_La_law_315 ?_
            refine aw_ti (nI_add (6 * t) 3) ?_
            refine va_sld hx hb hX hbl hbA hS (i := (nI ((6 * t) + 3))) (vp_in_nI (by omega) (by omega)) d_La_law_316 ?_
            refine aw_ti (y := s3) (by rw [nI_clamp (by omega)]; exact hs3.symm) ?_
            refine lv_i2l hx hb d_La_law_317 rfl ?_
            refine ag_topl (fun y141 ey141 => ?_)
            refine lv_bipush (v := nI 32) hx hb d_La_law_318 (by decide +kernel) ?_
            refine lv_lshl hx hb d_La_law_320 rfl ?_
            refine ag_topl (fun y142 ey142 => ?_)
            refine lv_aload_n hx hb d_La_law_321 rfl (lv_at hl 1 rfl) ?_
            refine lv_iload hx hb d_La_law_322 (lv_at hl 5 rfl) ?_
            refine lv_iconst (v := nI 4) hx hb d_La_law_324 (by decide +kernel) ?_
            refine lv_iadd hx hb d_La_law_325 ?_
            refine aw_ti (nI_add (6 * t) 4) ?_
            refine va_sld hx hb hX hbl hbA hS (i := (nI ((6 * t) + 4))) (vp_in_nI (by omega) (by omega)) d_La_law_326 ?_
            refine aw_ti (y := s4) (by rw [nI_clamp (by omega)]; exact hs4.symm) ?_
            refine lv_i2l hx hb d_La_law_327 rfl ?_
            refine ag_topl (fun y143 ey143 => ?_)
            refine lv_ldc2 (v := 4294967295) hx hb hown (hG _ gw_13_3) d_La_law_328 ?_
            refine lv_land hx hb d_La_law_331 ?_
            refine ag_topl (fun y144 ey144 => ?_)
            refine lv_lor hx hb d_La_law_332 ?_
            refine ag_topl (fun y145 ey145 => ?_)
            obtain ⟨_, he146⟩ := zr_M0 hSh
            refine va_callv (va_runV (As := [.int (nI j), .int (nI k), .long y145]) (rest := []) ⟨hx, hb, hml, hown, hG⟩ (k_Mo_modeXsV l D g ad N0 zG zO zX zY zA zB zM zI zL zK zN zF zQ j k y145 hj (by omega) (by omega)) (aw_wV 3 hG gw_10_45 gw_10_42 gw_0_10 gw_10_43 gw_10_44 rfl rfl hd_Mo_mode ⟨Nat.le_of_ble_eq_true rfl, Nat.le_of_ble_eq_true rfl⟩) (ag_qV (va_recv hK hP rfl he146) hP hD hSh hU hS) rfl rfl hl.1 rfl (lv_room (Nat.le_of_ble_eq_true rfl)) d_La_law_333 ⟨by omega, by omega⟩) hS (fun _ _ h => h) (fun _ h => h) ?_
            clear hP hD hSh hS he146
            intro u8 t8 H locs ht _ _ hB _ _ hS
            obtain ⟨L, hP, hD, hSh⟩ := hB
            rw [ht] at hP
            clear ht
            refine lv_aload_n hx hb d_La_law_336 rfl (lv_at hl 3 rfl) ?_
            obtain ⟨_, he147⟩ := zr_M0 hSh
            refine va_calli (va_runV (As := []) (rest := []) ⟨hx, hb, hml, hown, hG⟩ (k_Mo_thrownV l D g ad N0 zG zO zX zY zA zB zM zI zL zK zN (nI 3) zQ) (aw_wV 0 hG gw_10_27 gw_10_24 gw_0_10 gw_10_25 gw_10_26 rfl rfl hd_Mo_thrown ⟨Nat.le_of_ble_eq_true rfl, Nat.le_of_ble_eq_true rfl⟩) (ag_qV (va_recv hK hP rfl he147) hP hD hSh hU hS) rfl rfl hl.1 rfl (lv_room (Nat.le_of_ble_eq_true rfl)) d_La_law_337 ⟨by omega, by omega⟩) hS (fun _ _ h => h) (fun _ h => h) (fun x148 u8 t8 H locs ht _ ex148 hB _ _ hS => ?_)
            obtain ⟨L, hP, hD, hSh⟩ := hB
            rw [ht] at hP
            clear ht
            have ex148 : x148 = nI 3 := ex148
            subst ex148
            refine lv_iload hx hb d_La_law_340 (lv_at hl 0 rfl) ?_
            refine lv_icmp_eq (tgt := 347) hx hb d_La_law_342 (by decide) (fun _ => ?_) (fun h => absurd (by decide +kernel) h)
            refine lv_goto (tgt := 837) hx hb d_La_law_347 (by decide) ?_
            refine lv_iinc (k := 5) (v := nI (6 * t + 6)) hx hb d_La_law_837 hl rfl (aw_inc (6 * t) 6 6 (by decide +kernel)) (by decide) rfl (fun ls hl => ?_)
            have hl : lv_has ls 8 [(4, .int (nI (6 * t + 6))), (5, .int (nI 3)), (0, .ref b), (1, .ref (aw_r ad 0)), (2, .ref (aw_m ad 0)), (3, .ref (aw_o ad))] := hl
            refine lv_goto (tgt := 23) hx hb d_La_law_840 (by decide) ?_
            have hl := lv_sub hl (l' := [(0, .ref b), (1, .ref (aw_r ad 0)), (2, .ref (aw_m ad 0)), (3, .ref (aw_o ad)), (4, .int (nI (6 * t + 6)))]) [2, 3, 4, 5, 0] rfl
            refine W.widen (k := 85 + (t + 1)) (n := 1246 + 6 * (t + 1)) (by omega) (by omega) ?_
            exact ih (t + 1) zG zO zX zY zA zB zM zI zL zK zN (nI 3) zQ _ _ L ls (by omega) hP hD hSh hR hS (by first | exact hl | simpa [Nat.mul_add] using hl)
    · refine aw_ti (y := nI 3) (by rw [hs3]) ?_
      refine lv_tableIn (tgt := 350) (off := 310) hx hb d_La_law_40 (by decide +kernel) (by decide +kernel) (by decide +kernel) (by decide) ?_
      obtain ⟨c0, hc0⟩ : ∃ z : Int32, z = xs (6 * t + 1) := ⟨_, rfl⟩
      rcases aw_rng 4 (by decide) c0 with hc | ⟨j, hj, rfl⟩
      · refine lv_aload_n hx hb d_La_law_350 rfl (lv_at hl 1 rfl) ?_
        refine lv_aload_n hx hb d_La_law_351 rfl (lv_at hl 0 rfl) ?_
        refine lv_iload hx hb d_La_law_352 (lv_at hl 4 rfl) ?_
        refine lv_iconst (v := nI 1) hx hb d_La_law_354 (by decide +kernel) ?_
        refine lv_iadd hx hb d_La_law_355 ?_
        refine aw_ti (nI_add (6 * t) 1) ?_
        refine va_sld hx hb hX hbl hbA hS (i := (nI ((6 * t) + 1))) (vp_in_nI (by omega) (by omega)) d_La_law_356 ?_
        refine aw_ti (y := c0) (by rw [nI_clamp (by omega)]; exact hc0.symm) ?_
        refine va_calli (vx_runSW (As := [.ref (aw_r ad 0), .int c0]) (rest := []) ⟨hx, hb, hml, hown, hG⟩ (k_La_freeXcV l hst D g ad N0 zG zO zX zY zA zB zM zI zL zK zN zF zQ c0 hc) (aw_wW 2 hG gw_5_41 gw_5_39 gw_0_0 gw_5_40 rfl rfl hd_La_free ⟨Nat.le_of_ble_eq_true rfl, Nat.le_of_ble_eq_true rfl⟩) (ag_qS hP hD hSh hU hS) rfl rfl hl.1 rfl (lv_room (Nat.le_of_ble_eq_true rfl)) d_La_law_357 ⟨by omega, by omega⟩) hS (fun _ _ h => h) (fun _ h => h) ?_
        clear hP hD hSh hS
        intro x149 u8 t8 H locs ht _ ex149 hB _ _ hS
        obtain ⟨L, hP, hD, hSh⟩ := hB
        rw [ht] at hP
        clear ht
        subst ex149
        refine lv_istore hx hb d_La_law_360 hl (by decide) rfl (fun ls hl => ?_)
        have hl : lv_has ls 8 [(5, .int (nI 1)), (0, .ref b), (1, .ref (aw_r ad 0)), (2, .ref (aw_m ad 0)), (3, .ref (aw_o ad)), (4, .int (nI (6 * t)))] := hl
        refine lv_aload_n hx hb d_La_law_362 rfl (lv_at hl 3 rfl) ?_
        refine lv_aload_n hx hb d_La_law_363 rfl (lv_at hl 1 rfl) ?_
        refine lv_iload hx hb d_La_law_364 (lv_at hl 5 rfl) ?_
        refine lv_iconst (v := nI 1) hx hb d_La_law_366 (by decide +kernel) ?_
        refine lv_iadd hx hb d_La_law_367 ?_
        refine aw_ti (nI_add (6 * t) 1) ?_
        refine va_sld hx hb hX hbl hbA hS (i := (nI ((6 * t) + 1))) (vp_in_nI (by omega) (by omega)) d_La_law_368 ?_
        refine aw_ti (y := c0) (by rw [nI_clamp (by omega)]; exact hc0.symm) ?_
        obtain ⟨_, he150⟩ := zr_M0 hSh
        refine va_callv (va_runV (As := [.int c0]) (rest := []) ⟨hx, hb, hml, hown, hG⟩ (k_Mo_freeXcV l D g ad N0 zG zO zX zY zA zB zM zI zL zK zN zF zQ c0 hc) (aw_wV 1 hG gw_10_55 gw_10_52 gw_0_10 gw_10_53 gw_10_54 rfl rfl hd_Mo_free ⟨Nat.le_of_ble_eq_true rfl, Nat.le_of_ble_eq_true rfl⟩) (ag_qV (va_recv hK hP rfl he150) hP hD hSh hU hS) rfl rfl hl.1 rfl (lv_room (Nat.le_of_ble_eq_true rfl)) d_La_law_369 ⟨by omega, by omega⟩) hS (fun _ _ h => h) (fun _ h => h) ?_
        clear hP hD hSh hS he150
        intro u8 t8 H locs ht _ _ hB _ _ hS
        obtain ⟨L, hP, hD, hSh⟩ := hB
        rw [ht] at hP
        clear ht
        refine lv_goto (tgt := 837) hx hb d_La_law_372 (by decide) ?_
        refine lv_iinc (k := 5) (v := nI (6 * t + 6)) hx hb d_La_law_837 hl rfl (aw_inc (6 * t) 6 6 (by decide +kernel)) (by decide) rfl (fun ls hl => ?_)
        have hl : lv_has ls 8 [(4, .int (nI (6 * t + 6))), (5, .int (nI 1)), (0, .ref b), (1, .ref (aw_r ad 0)), (2, .ref (aw_m ad 0)), (3, .ref (aw_o ad))] := hl
        refine lv_goto (tgt := 23) hx hb d_La_law_840 (by decide) ?_
        have hl := lv_sub hl (l' := [(0, .ref b), (1, .ref (aw_r ad 0)), (2, .ref (aw_m ad 0)), (3, .ref (aw_o ad)), (4, .int (nI (6 * t + 6)))]) [2, 3, 4, 5, 0] rfl
        refine W.widen (k := 85 + (t + 1)) (n := 1246 + 6 * (t + 1)) (by omega) (by omega) ?_
        exact ih (t + 1) zG zO zX zY zA zB zM zI zL zK zN (nI 1) zQ _ _ L ls (by omega) hP hD hSh hR hS (by first | exact hl | simpa [Nat.mul_add] using hl)
      · have hgj := hSh.2.2.2.2.1 j hj
        have hq1 : (zM j).1 = (zG j).1 := by rw [hR.1 j hj]
        have hq2 : (zM j).2 = (zG j).2 := by rw [hR.1 j hj]
        refine lv_aload_n hx hb d_La_law_350 rfl (lv_at hl 1 rfl) ?_
        refine lv_aload_n hx hb d_La_law_351 rfl (lv_at hl 0 rfl) ?_
        refine lv_iload hx hb d_La_law_352 (lv_at hl 4 rfl) ?_
        refine lv_iconst (v := nI 1) hx hb d_La_law_354 (by decide +kernel) ?_
        refine lv_iadd hx hb d_La_law_355 ?_
        refine aw_ti (nI_add (6 * t) 1) ?_
        refine va_sld hx hb hX hbl hbA hS (i := (nI ((6 * t) + 1))) (vp_in_nI (by omega) (by omega)) d_La_law_356 ?_
        refine aw_ti (y := nI j) (by rw [nI_clamp (by omega)]; exact hc0.symm) ?_
        refine va_calli (vx_runSW (As := [.ref (aw_r ad 0), .int (nI j)]) (rest := []) ⟨hx, hb, hml, hown, hG⟩ (k_La_free1V l hst D g ad N0 zG zO zX zY zA zB zM zI zL zK zN zF zQ j hj) (aw_wW 2 hG gw_5_41 gw_5_39 gw_0_0 gw_5_40 rfl rfl hd_La_free ⟨Nat.le_of_ble_eq_true rfl, Nat.le_of_ble_eq_true rfl⟩) (ag_qS hP hD hSh hU hS) rfl rfl hl.1 rfl (lv_room (Nat.le_of_ble_eq_true rfl)) d_La_law_357 ⟨by omega, by omega⟩) hS (fun _ _ h => h) (fun _ h => h) ?_
        clear hP hD hSh hS
        intro x151 u8 t8 H locs ht _ ex151 hB _ _ hS
        obtain ⟨L, hP, hD, hSh⟩ := hB
        rw [ht] at hP
        clear ht
        subst ex151
        obtain ⟨zG152, ezG152⟩ : ∃ z : Nat → Nat × Nat, v_La_free1V_zG zG j = z := ⟨_, rfl⟩
        rw [ezG152] at hSh
        refine lv_istore hx hb d_La_law_360 hl (by decide) rfl (fun ls hl => ?_)
        have hl : lv_has ls 8 [(5, .int (nI 0)), (0, .ref b), (1, .ref (aw_r ad 0)), (2, .ref (aw_m ad 0)), (3, .ref (aw_o ad)), (4, .int (nI (6 * t)))] := hl
        refine lv_aload_n hx hb d_La_law_362 rfl (lv_at hl 3 rfl) ?_
        refine lv_aload_n hx hb d_La_law_363 rfl (lv_at hl 1 rfl) ?_
        refine lv_iload hx hb d_La_law_364 (lv_at hl 5 rfl) ?_
        refine lv_iconst (v := nI 1) hx hb d_La_law_366 (by decide +kernel) ?_
        refine lv_iadd hx hb d_La_law_367 ?_
        refine aw_ti (nI_add (6 * t) 1) ?_
        refine va_sld hx hb hX hbl hbA hS (i := (nI ((6 * t) + 1))) (vp_in_nI (by omega) (by omega)) d_La_law_368 ?_
        refine aw_ti (y := nI j) (by rw [nI_clamp (by omega)]; exact hc0.symm) ?_
        obtain ⟨_, he153⟩ := zr_M0 hSh
        refine va_callv (va_runV (As := [.int (nI j)]) (rest := []) ⟨hx, hb, hml, hown, hG⟩ (k_Mo_free1V l D g ad N0 zG152 zO zX zY zA zB zM zI zL zK zN zF zQ j hj) (aw_wV 1 hG gw_10_55 gw_10_52 gw_0_10 gw_10_53 gw_10_54 rfl rfl hd_Mo_free ⟨Nat.le_of_ble_eq_true rfl, Nat.le_of_ble_eq_true rfl⟩) (ag_qV (va_recv hK hP rfl he153) hP hD hSh hU hS) rfl rfl hl.1 rfl (lv_room (Nat.le_of_ble_eq_true rfl)) d_La_law_369 ⟨by omega, by omega⟩) hS (fun _ _ h => h) (fun _ h => h) ?_
        clear hP hD hSh hS he153
        intro u8 t8 H locs ht _ _ hB _ _ hS
        obtain ⟨L, hP, hD, hSh⟩ := hB
        rw [ht] at hP
        clear ht
        obtain ⟨zM154, ezM154⟩ : ∃ z : Nat → Nat × Nat, v_Mo_free1V_zM zM zI j = z := ⟨_, rfl⟩
        rw [ezM154] at hSh
        obtain ⟨zI155, ezI155⟩ : ∃ z : Nat → Nat → Int32, v_Mo_free1V_zI zM zI j = z := ⟨_, rfl⟩
        rw [ezI155] at hSh
        refine lv_goto (tgt := 837) hx hb d_La_law_372 (by decide) ?_
        refine lv_iinc (k := 5) (v := nI (6 * t + 6)) hx hb d_La_law_837 hl rfl (aw_inc (6 * t) 6 6 (by decide +kernel)) (by decide) rfl (fun ls hl => ?_)
        have hl : lv_has ls 8 [(4, .int (nI (6 * t + 6))), (5, .int (nI 0)), (0, .ref b), (1, .ref (aw_r ad 0)), (2, .ref (aw_m ad 0)), (3, .ref (aw_o ad))] := hl
        refine lv_goto (tgt := 23) hx hb d_La_law_840 (by decide) ?_
        have hl := lv_sub hl (l' := [(0, .ref b), (1, .ref (aw_r ad 0)), (2, .ref (aw_m ad 0)), (3, .ref (aw_o ad)), (4, .int (nI (6 * t + 6)))]) [2, 3, 4, 5, 0] rfl
        refine W.widen (k := 85 + (t + 1)) (n := 1246 + 6 * (t + 1)) (by omega) (by omega) ?_
        have hR : az_R zG152 zO zX zY zA zB zM154 zI155 zL := by
          subst ezI155 ezM154 ezG152
          exact r_free1 hR hj
        exact ih (t + 1) zG152 zO zX zY zA zB zM154 zI155 zL zK zN (nI 0) zQ _ _ L ls (by omega) hP hD hSh hR hS (by first | exact hl | simpa [Nat.mul_add] using hl)
    · refine aw_ti (y := nI 4) (by rw [hs3]) ?_
      refine lv_tableIn (tgt := 375) (off := 335) hx hb d_La_law_40 (by decide +kernel) (by decide +kernel) (by decide +kernel) (by decide) ?_
      obtain ⟨c0, hc0⟩ : ∃ z : Int32, z = xs (6 * t + 1) := ⟨_, rfl⟩
      rcases aw_rng 4 (by decide) c0 with hc | ⟨j, hj, rfl⟩
      · refine lv_aload_n hx hb d_La_law_375 rfl (lv_at hl 1 rfl) ?_
        refine lv_aload_n hx hb d_La_law_376 rfl (lv_at hl 0 rfl) ?_
        refine lv_iload hx hb d_La_law_377 (lv_at hl 4 rfl) ?_
        refine lv_iconst (v := nI 1) hx hb d_La_law_379 (by decide +kernel) ?_
        refine lv_iadd hx hb d_La_law_380 ?_
        refine aw_ti (nI_add (6 * t) 1) ?_
        refine va_sld hx hb hX hbl hbA hS (i := (nI ((6 * t) + 1))) (vp_in_nI (by omega) (by omega)) d_La_law_381 ?_
        refine aw_ti (y := c0) (by rw [nI_clamp (by omega)]; exact hc0.symm) ?_
        refine lv_aload_n hx hb d_La_law_382 rfl (lv_at hl 3 rfl) ?_
        refine va_calli (vx_runSW (As := [.ref (aw_r ad 0), .int c0, .ref (aw_o ad)]) (rest := []) ⟨hx, hb, hml, hown, hG⟩ (k_La_stageXcV l hst D g ad N0 zG zO zX zY zA zB zM zI zL zK zN zF zQ c0 hc) (aw_wW 3 hG gw_5_48 gw_5_46 gw_0_0 gw_5_47 rfl rfl hd_La_stage ⟨Nat.le_of_ble_eq_true rfl, Nat.le_of_ble_eq_true rfl⟩) (ag_qS hP hD hSh hU hS) rfl rfl hl.1 rfl (lv_room (Nat.le_of_ble_eq_true rfl)) d_La_law_383 ⟨by omega, by omega⟩) hS (fun _ _ h => h) (fun _ h => h) ?_
        clear hP hD hSh hS
        intro x156 u8 t8 H locs ht _ ex156 hB _ _ hS
        obtain ⟨L, hP, hD, hSh⟩ := hB
        rw [ht] at hP
        clear ht
        subst ex156
        refine lv_istore hx hb d_La_law_386 hl (by decide) rfl (fun ls hl => ?_)
        have hl : lv_has ls 8 [(5, .int (nI 1)), (0, .ref b), (1, .ref (aw_r ad 0)), (2, .ref (aw_m ad 0)), (3, .ref (aw_o ad)), (4, .int (nI (6 * t)))] := hl
        refine lv_aload_n hx hb d_La_law_388 rfl (lv_at hl 3 rfl) ?_
        refine lv_aload_n hx hb d_La_law_389 rfl (lv_at hl 1 rfl) ?_
        refine lv_iload hx hb d_La_law_390 (lv_at hl 5 rfl) ?_
        refine lv_iconst (v := nI 1) hx hb d_La_law_392 (by decide +kernel) ?_
        refine lv_iadd hx hb d_La_law_393 ?_
        refine aw_ti (nI_add (6 * t) 1) ?_
        refine va_sld hx hb hX hbl hbA hS (i := (nI ((6 * t) + 1))) (vp_in_nI (by omega) (by omega)) d_La_law_394 ?_
        refine aw_ti (y := c0) (by rw [nI_clamp (by omega)]; exact hc0.symm) ?_
        obtain ⟨_, he157⟩ := zr_M0 hSh
        refine va_calli (va_runV (As := [.int c0]) (rest := []) ⟨hx, hb, hml, hown, hG⟩ (k_Mo_stageXcV l D g ad N0 zG zO zX zY zA zB zM zI zL zK zN zF zQ c0 hc) (aw_wV 1 hG gw_10_59 gw_10_56 gw_0_10 gw_10_57 gw_10_58 rfl rfl hd_Mo_stage ⟨Nat.le_of_ble_eq_true rfl, Nat.le_of_ble_eq_true rfl⟩) (ag_qV (va_recv hK hP rfl he157) hP hD hSh hU hS) rfl rfl hl.1 rfl (lv_room (Nat.le_of_ble_eq_true rfl)) d_La_law_395 ⟨by omega, by omega⟩) hS (fun _ _ h => h) (fun _ h => h) ?_
        clear hP hD hSh hS he157
        intro x158 u8 t8 H locs ht _ ex158 hB _ _ hS
        obtain ⟨L, hP, hD, hSh⟩ := hB
        rw [ht] at hP
        clear ht
        have ex158 := ex158.symm
        refine lv_istore hx hb d_La_law_398 hl (by decide) rfl (fun ls hl => ?_)
        have hl : lv_has ls 8 [(6, .int x158), (5, .int (nI 1)), (0, .ref b), (1, .ref (aw_r ad 0)), (2, .ref (aw_m ad 0)), (3, .ref (aw_o ad)), (4, .int (nI (6 * t)))] := hl
        refine lv_goto (tgt := 837) hx hb d_La_law_400 (by decide) ?_
        refine lv_iinc (k := 6) (v := nI (6 * t + 6)) hx hb d_La_law_837 hl rfl (aw_inc (6 * t) 6 6 (by decide +kernel)) (by decide) rfl (fun ls hl => ?_)
        have hl : lv_has ls 8 [(4, .int (nI (6 * t + 6))), (6, .int x158), (5, .int (nI 1)), (0, .ref b), (1, .ref (aw_r ad 0)), (2, .ref (aw_m ad 0)), (3, .ref (aw_o ad))] := hl
        refine lv_goto (tgt := 23) hx hb d_La_law_840 (by decide) ?_
        have hl := lv_sub hl (l' := [(0, .ref b), (1, .ref (aw_r ad 0)), (2, .ref (aw_m ad 0)), (3, .ref (aw_o ad)), (4, .int (nI (6 * t + 6)))]) [3, 4, 5, 6, 0] rfl
        refine W.widen (k := 85 + (t + 1)) (n := 1246 + 6 * (t + 1)) (by omega) (by omega) ?_
        exact ih (t + 1) zG zO zX zY zA zB zM zI zL zK zN (nI 1) zQ _ _ L ls (by omega) hP hD hSh hR hS (by first | exact hl | simpa [Nat.mul_add] using hl)
      · have hgj := hSh.2.2.2.2.1 j hj
        have hq1 : (zM j).1 = (zG j).1 := by rw [hR.1 j hj]
        have hq2 : (zM j).2 = (zG j).2 := by rw [hR.1 j hj]
        refine lv_aload_n hx hb d_La_law_375 rfl (lv_at hl 1 rfl) ?_
        refine lv_aload_n hx hb d_La_law_376 rfl (lv_at hl 0 rfl) ?_
        refine lv_iload hx hb d_La_law_377 (lv_at hl 4 rfl) ?_
        refine lv_iconst (v := nI 1) hx hb d_La_law_379 (by decide +kernel) ?_
        refine lv_iadd hx hb d_La_law_380 ?_
        refine aw_ti (nI_add (6 * t) 1) ?_
        refine va_sld hx hb hX hbl hbA hS (i := (nI ((6 * t) + 1))) (vp_in_nI (by omega) (by omega)) d_La_law_381 ?_
        refine aw_ti (y := nI j) (by rw [nI_clamp (by omega)]; exact hc0.symm) ?_
        refine lv_aload_n hx hb d_La_law_382 rfl (lv_at hl 3 rfl) ?_
        refine va_calli (vx_runSW (As := [.ref (aw_r ad 0), .int (nI j), .ref (aw_o ad)]) (rest := []) ⟨hx, hb, hml, hown, hG⟩ (k_La_stage1V l hst D g ad N0 zG zO zX zY zA zB zM zI zL zK zN zF zQ j hj) (aw_wW 3 hG gw_5_48 gw_5_46 gw_0_0 gw_5_47 rfl rfl hd_La_stage ⟨Nat.le_of_ble_eq_true rfl, Nat.le_of_ble_eq_true rfl⟩) (ag_qS hP hD hSh hU hS) rfl rfl hl.1 rfl (lv_room (Nat.le_of_ble_eq_true rfl)) d_La_law_383 ⟨by omega, by omega⟩) hS (fun _ _ h => h) (fun _ h => h) ?_
        clear hP hD hSh hS
        intro x159 u8 t8 H locs ht _ ex159 hB _ _ hS
        obtain ⟨L, hP, hD, hSh⟩ := hB
        rw [ht] at hP
        clear ht
        subst ex159
        obtain ⟨zQ160, ezQ160⟩ : ∃ z : Int64, v_La_stage1V_zQ zG j = z := ⟨_, rfl⟩
        rw [ezQ160] at hSh
        refine lv_istore hx hb d_La_law_386 hl (by decide) rfl (fun ls hl => ?_)
        have hl : lv_has ls 8 [(5, .int (nI 0)), (0, .ref b), (1, .ref (aw_r ad 0)), (2, .ref (aw_m ad 0)), (3, .ref (aw_o ad)), (4, .int (nI (6 * t)))] := hl
        refine lv_aload_n hx hb d_La_law_388 rfl (lv_at hl 3 rfl) ?_
        refine lv_aload_n hx hb d_La_law_389 rfl (lv_at hl 1 rfl) ?_
        refine lv_iload hx hb d_La_law_390 (lv_at hl 5 rfl) ?_
        refine lv_iconst (v := nI 1) hx hb d_La_law_392 (by decide +kernel) ?_
        refine lv_iadd hx hb d_La_law_393 ?_
        refine aw_ti (nI_add (6 * t) 1) ?_
        refine va_sld hx hb hX hbl hbA hS (i := (nI ((6 * t) + 1))) (vp_in_nI (by omega) (by omega)) d_La_law_394 ?_
        refine aw_ti (y := nI j) (by rw [nI_clamp (by omega)]; exact hc0.symm) ?_
        obtain ⟨_, he161⟩ := zr_M0 hSh
        refine va_calli (va_runV (As := [.int (nI j)]) (rest := []) ⟨hx, hb, hml, hown, hG⟩ (k_Mo_stage1V l D g ad N0 zG zO zX zY zA zB zM zI zL zK zN zF zQ160 j hj) (aw_wV 1 hG gw_10_59 gw_10_56 gw_0_10 gw_10_57 gw_10_58 rfl rfl hd_Mo_stage ⟨Nat.le_of_ble_eq_true rfl, Nat.le_of_ble_eq_true rfl⟩) (ag_qV (va_recv hK hP rfl he161) hP hD hSh hU hS) rfl rfl hl.1 rfl (lv_room (Nat.le_of_ble_eq_true rfl)) d_La_law_395 ⟨by omega, by omega⟩) hS (fun _ _ h => h) (fun _ h => h) ?_
        clear hP hD hSh hS he161
        intro x162 u8 t8 H locs ht _ ex162 hB _ _ hS
        obtain ⟨L, hP, hD, hSh⟩ := hB
        rw [ht] at hP
        clear ht
        have ex162 := ex162.symm
        refine lv_istore hx hb d_La_law_398 hl (by decide) rfl (fun ls hl => ?_)
        have hl : lv_has ls 8 [(6, .int x162), (5, .int (nI 0)), (0, .ref b), (1, .ref (aw_r ad 0)), (2, .ref (aw_m ad 0)), (3, .ref (aw_o ad)), (4, .int (nI (6 * t)))] := hl
        refine lv_goto (tgt := 837) hx hb d_La_law_400 (by decide) ?_
        refine lv_iinc (k := 6) (v := nI (6 * t + 6)) hx hb d_La_law_837 hl rfl (aw_inc (6 * t) 6 6 (by decide +kernel)) (by decide) rfl (fun ls hl => ?_)
        have hl : lv_has ls 8 [(4, .int (nI (6 * t + 6))), (6, .int x162), (5, .int (nI 0)), (0, .ref b), (1, .ref (aw_r ad 0)), (2, .ref (aw_m ad 0)), (3, .ref (aw_o ad))] := hl
        refine lv_goto (tgt := 23) hx hb d_La_law_840 (by decide) ?_
        have hl := lv_sub hl (l' := [(0, .ref b), (1, .ref (aw_r ad 0)), (2, .ref (aw_m ad 0)), (3, .ref (aw_o ad)), (4, .int (nI (6 * t + 6)))]) [3, 4, 5, 6, 0] rfl
        refine W.widen (k := 85 + (t + 1)) (n := 1246 + 6 * (t + 1)) (by omega) (by omega) ?_
        exact ih (t + 1) zG zO zX zY zA zB zM zI zL zK zN (nI 0) zQ160 _ _ L ls (by omega) hP hD hSh hR hS (by first | exact hl | simpa [Nat.mul_add] using hl)
    · refine aw_ti (y := nI 5) (by rw [hs3]) ?_
      refine lv_tableIn (tgt := 403) (off := 363) hx hb d_La_law_40 (by decide +kernel) (by decide +kernel) (by decide +kernel) (by decide) ?_
      obtain ⟨c0, hc0⟩ : ∃ z : Int32, z = xs (6 * t + 1) := ⟨_, rfl⟩
      obtain ⟨s2, hs2⟩ : ∃ z : Int32, z = xs (6 * t + 2) := ⟨_, rfl⟩
      obtain ⟨s3, hs3⟩ : ∃ z : Int32, z = xs (6 * t + 3) := ⟨_, rfl⟩
      obtain ⟨s4, hs4⟩ : ∃ z : Int32, z = xs (6 * t + 4) := ⟨_, rfl⟩
      rcases aw_rng 4 (by decide) c0 with hc | ⟨j, hj, rfl⟩
      · refine lv_aload_n hx hb d_La_law_403 rfl (lv_at hl 1 rfl) ?_
        refine lv_aload_n hx hb d_La_law_404 rfl (lv_at hl 0 rfl) ?_
        refine lv_iload hx hb d_La_law_405 (lv_at hl 4 rfl) ?_
        refine lv_iconst (v := nI 1) hx hb d_La_law_407 (by decide +kernel) ?_
        refine lv_iadd hx hb d_La_law_408 ?_
        refine aw_ti (nI_add (6 * t) 1) ?_
        refine va_sld hx hb hX hbl hbA hS (i := (nI ((6 * t) + 1))) (vp_in_nI (by omega) (by omega)) d_La_law_409 ?_
        refine aw_ti (y := c0) (by rw [nI_clamp (by omega)]; exact hc0.symm) ?_
        refine lv_aload_n hx hb d_La_law_410 rfl (lv_at hl 0 rfl) ?_
        refine lv_iload hx hb d_La_law_411 (lv_at hl 4 rfl) ?_
        refine lv_iconst (v := nI 2) hx hb d_La_law_413 (by decide +kernel) ?_
        refine lv_iadd hx hb d_La_law_414 ?_
        refine aw_ti (nI_add (6 * t) 2) ?_
        refine va_sld hx hb hX hbl hbA hS (i := (nI ((6 * t) + 2))) (vp_in_nI (by omega) (by omega)) d_La_law_415 ?_
        refine aw_ti (y := s2) (by rw [nI_clamp (by omega)]; exact hs2.symm) ?_
        have hj163 : ∀ x164 : Int32, (if s2 = 0 then nI 0 else nI 1) = x164 → W p l e room_1 s m #[Value.ref b] below meth c H locs (85 + t) (1246 + 6 * t) (lw_Z below #[Value.ref b] s) (F0 m 424 ls [.int x164, .int c0, .ref (aw_r ad 0)]) := by
          intro x164 ebx164
          refine lv_aload_n hx hb d_La_law_424 rfl (lv_at hl 0 rfl) ?_
          refine lv_iload hx hb d_La_law_425 (lv_at hl 4 rfl) ?_
          refine lv_iconst (v := nI 3) hx hb d_La_law_427 (by decide +kernel) ?_
          refine lv_iadd hx hb d_La_law_428 ?_
          refine aw_ti (nI_add (6 * t) 3) ?_
          refine va_sld hx hb hX hbl hbA hS (i := (nI ((6 * t) + 3))) (vp_in_nI (by omega) (by omega)) d_La_law_429 ?_
          refine aw_ti (y := s3) (by rw [nI_clamp (by omega)]; exact hs3.symm) ?_
          refine lv_i2l hx hb d_La_law_430 rfl ?_
          refine ag_topl (fun y165 ey165 => ?_)
          refine lv_bipush (v := nI 32) hx hb d_La_law_431 (by decide +kernel) ?_
          refine lv_lshl hx hb d_La_law_433 rfl ?_
          refine ag_topl (fun y166 ey166 => ?_)
          refine lv_aload_n hx hb d_La_law_434 rfl (lv_at hl 0 rfl) ?_
          refine lv_iload hx hb d_La_law_435 (lv_at hl 4 rfl) ?_
          refine lv_iconst (v := nI 4) hx hb d_La_law_437 (by decide +kernel) ?_
          refine lv_iadd hx hb d_La_law_438 ?_
          refine aw_ti (nI_add (6 * t) 4) ?_
          refine va_sld hx hb hX hbl hbA hS (i := (nI ((6 * t) + 4))) (vp_in_nI (by omega) (by omega)) d_La_law_439 ?_
          refine aw_ti (y := s4) (by rw [nI_clamp (by omega)]; exact hs4.symm) ?_
          refine lv_i2l hx hb d_La_law_440 rfl ?_
          refine ag_topl (fun y167 ey167 => ?_)
          refine lv_ldc2 (v := 4294967295) hx hb hown (hG _ gw_13_3) d_La_law_441 ?_
          refine lv_land hx hb d_La_law_444 ?_
          refine ag_topl (fun y168 ey168 => ?_)
          refine lv_lor hx hb d_La_law_445 ?_
          refine ag_topl (fun y169 ey169 => ?_)
          refine lv_aload_n hx hb d_La_law_446 rfl (lv_at hl 3 rfl) ?_
          refine va_calli (vx_runSW (As := [.ref (aw_r ad 0), .int c0, .int x164, .long y169, .ref (aw_o ad)]) (rest := []) ⟨hx, hb, hml, hown, hG⟩ (k_La_blockXcV l hst D g ad N0 zG zO zX zY zA zB zM zI zL zK zN zF zQ c0 x164 y169 hc) (aw_wW 5 hG gw_5_55 gw_5_53 gw_0_0 gw_5_54 rfl rfl hd_La_block ⟨Nat.le_of_ble_eq_true rfl, Nat.le_of_ble_eq_true rfl⟩) (ag_qS hP hD hSh hU hS) rfl rfl hl.1 rfl (lv_room (Nat.le_of_ble_eq_true rfl)) d_La_law_447 ⟨by omega, by omega⟩) hS (fun _ _ h => h) (fun _ h => h) ?_
          clear hP hD hSh hS
          intro x170 u8 t8 H locs ht _ ex170 hB _ _ hS
          obtain ⟨L, hP, hD, hSh⟩ := hB
          rw [ht] at hP
          clear ht
          subst ex170
          refine lv_istore hx hb d_La_law_450 hl (by decide) rfl (fun ls hl => ?_)
          have hl : lv_has ls 8 [(5, .int (nI 1)), (0, .ref b), (1, .ref (aw_r ad 0)), (2, .ref (aw_m ad 0)), (3, .ref (aw_o ad)), (4, .int (nI (6 * t)))] := hl
          refine lv_aload_n hx hb d_La_law_452 rfl (lv_at hl 3 rfl) ?_
          refine lv_aload_n hx hb d_La_law_453 rfl (lv_at hl 1 rfl) ?_
          refine lv_iload hx hb d_La_law_454 (lv_at hl 5 rfl) ?_
          refine lv_iconst (v := nI 1) hx hb d_La_law_456 (by decide +kernel) ?_
          refine lv_iadd hx hb d_La_law_457 ?_
          refine aw_ti (nI_add (6 * t) 1) ?_
          refine va_sld hx hb hX hbl hbA hS (i := (nI ((6 * t) + 1))) (vp_in_nI (by omega) (by omega)) d_La_law_458 ?_
          refine aw_ti (y := c0) (by rw [nI_clamp (by omega)]; exact hc0.symm) ?_
          refine lv_aload_n hx hb d_La_law_459 rfl (lv_at hl 1 rfl) ?_
          refine lv_iload hx hb d_La_law_460 (lv_at hl 5 rfl) ?_
          refine lv_iconst (v := nI 2) hx hb d_La_law_462 (by decide +kernel) ?_
          refine lv_iadd hx hb d_La_law_463 ?_
          refine aw_ti (nI_add (6 * t) 2) ?_
          refine va_sld hx hb hX hbl hbA hS (i := (nI ((6 * t) + 2))) (vp_in_nI (by omega) (by omega)) d_La_law_464 ?_
          refine aw_ti (y := s2) (by rw [nI_clamp (by omega)]; exact hs2.symm) ?_
          have hj171 : ∀ x172 : Int32, (if s2 = 0 then nI 0 else nI 1) = x172 → W p l e room_1 s m #[Value.ref b] below meth c H locs ((85 + t) + 1) ((1246 + 6 * t) + 6) (lw_Z below #[Value.ref b] s) (F0 m 473 ls [.int x172, .int c0, .ref (aw_m ad 0)]) := by
            intro x172 ebx172
            refine lv_aload_n hx hb d_La_law_473 rfl (lv_at hl 1 rfl) ?_
            refine lv_iload hx hb d_La_law_474 (lv_at hl 5 rfl) ?_
            refine lv_iconst (v := nI 3) hx hb d_La_law_476 (by decide +kernel) ?_
            refine lv_iadd hx hb d_La_law_477 ?_
            refine aw_ti (nI_add (6 * t) 3) ?_
            refine va_sld hx hb hX hbl hbA hS (i := (nI ((6 * t) + 3))) (vp_in_nI (by omega) (by omega)) d_La_law_478 ?_
            refine aw_ti (y := s3) (by rw [nI_clamp (by omega)]; exact hs3.symm) ?_
            refine lv_i2l hx hb d_La_law_479 rfl ?_
            refine ag_topl (fun y173 ey173 => ?_)
            refine lv_bipush (v := nI 32) hx hb d_La_law_480 (by decide +kernel) ?_
            refine lv_lshl hx hb d_La_law_482 rfl ?_
            refine ag_topl (fun y174 ey174 => ?_)
            refine lv_aload_n hx hb d_La_law_483 rfl (lv_at hl 1 rfl) ?_
            refine lv_iload hx hb d_La_law_484 (lv_at hl 5 rfl) ?_
            refine lv_iconst (v := nI 4) hx hb d_La_law_486 (by decide +kernel) ?_
            refine lv_iadd hx hb d_La_law_487 ?_
            refine aw_ti (nI_add (6 * t) 4) ?_
            refine va_sld hx hb hX hbl hbA hS (i := (nI ((6 * t) + 4))) (vp_in_nI (by omega) (by omega)) d_La_law_488 ?_
            refine aw_ti (y := s4) (by rw [nI_clamp (by omega)]; exact hs4.symm) ?_
            refine lv_i2l hx hb d_La_law_489 rfl ?_
            refine ag_topl (fun y175 ey175 => ?_)
            refine lv_ldc2 (v := 4294967295) hx hb hown (hG _ gw_13_3) d_La_law_490 ?_
            refine lv_land hx hb d_La_law_493 ?_
            refine ag_topl (fun y176 ey176 => ?_)
            refine lv_lor hx hb d_La_law_494 ?_
            refine ag_topl (fun y177 ey177 => ?_)
            obtain ⟨_, he178⟩ := zr_M0 hSh
            refine va_calll (va_runV (As := [.int c0, .int x172, .long y177]) (rest := []) ⟨hx, hb, hml, hown, hG⟩ (k_Mo_blockXcV l D g ad N0 zG zO zX zY zA zB zM zI zL zK zN zF zQ c0 x172 y177 hc) (aw_wV 3 hG gw_11_3 gw_11_0 gw_0_10 gw_11_1 gw_11_2 rfl rfl hd_Mo_block ⟨Nat.le_of_ble_eq_true rfl, Nat.le_of_ble_eq_true rfl⟩) (ag_qV (va_recv hK hP rfl he178) hP hD hSh hU hS) rfl rfl hl.1 rfl (lv_room (Nat.le_of_ble_eq_true rfl)) d_La_law_495 ⟨by omega, by omega⟩) hS (fun _ _ h => h) (fun _ h => h) ?_
            clear hP hD hSh hS he178
            intro y179 u8 t8 H locs ht _ ey179 hB _ _ hS
            obtain ⟨L, hP, hD, hSh⟩ := hB
            rw [ht] at hP
            clear ht
            have ey179 := ey179.symm
            refine lv_lstore hx hb d_La_law_498 hl (by decide) rfl (fun ls hl => ?_)
            have hl : lv_has ls 8 [(6, .long y179), (5, .int (nI 1)), (0, .ref b), (1, .ref (aw_r ad 0)), (2, .ref (aw_m ad 0)), (3, .ref (aw_o ad)), (4, .int (nI (6 * t)))] := hl
            refine lv_goto (tgt := 837) hx hb d_La_law_500 (by decide) ?_
            refine lv_iinc (k := 6) (v := nI (6 * t + 6)) hx hb d_La_law_837 hl rfl (aw_inc (6 * t) 6 6 (by decide +kernel)) (by decide) rfl (fun ls hl => ?_)
            have hl : lv_has ls 8 [(4, .int (nI (6 * t + 6))), (6, .long y179), (5, .int (nI 1)), (0, .ref b), (1, .ref (aw_r ad 0)), (2, .ref (aw_m ad 0)), (3, .ref (aw_o ad))] := hl
            refine lv_goto (tgt := 23) hx hb d_La_law_840 (by decide) ?_
            have hl := lv_sub hl (l' := [(0, .ref b), (1, .ref (aw_r ad 0)), (2, .ref (aw_m ad 0)), (3, .ref (aw_o ad)), (4, .int (nI (6 * t + 6)))]) [3, 4, 5, 6, 0] rfl
            refine W.widen (k := 85 + (t + 1)) (n := 1246 + 6 * (t + 1)) (by omega) (by omega) ?_
            exact ih (t + 1) zG zO zX zY zA zB zM zI zL zK zN (nI 1) zQ _ _ L ls (by omega) hP hD hSh hR hS (by first | exact hl | simpa [Nat.mul_add] using hl)
          refine lv_if_eq (tgt := 472) hx hb d_La_law_465 (by decide) (fun h9 => ?_) (fun h9 => ?_)
          · refine lv_iconst (v := nI 0) hx hb d_La_law_472 (by decide +kernel) ?_
            exact hj171 _ (if_pos h9)
          · refine lv_iconst (v := nI 1) hx hb d_La_law_468 (by decide +kernel) ?_
            refine lv_goto (tgt := 473) hx hb d_La_law_469 (by decide) ?_
            exact hj171 _ (if_neg h9)
        refine lv_if_eq (tgt := 423) hx hb d_La_law_416 (by decide) (fun h9 => ?_) (fun h9 => ?_)
        · refine lv_iconst (v := nI 0) hx hb d_La_law_423 (by decide +kernel) ?_
          exact hj163 _ (if_pos h9)
        · refine lv_iconst (v := nI 1) hx hb d_La_law_419 (by decide +kernel) ?_
          refine lv_goto (tgt := 424) hx hb d_La_law_420 (by decide) ?_
          exact hj163 _ (if_neg h9)
      · have hgj := hSh.2.2.2.2.1 j hj
        have hq1 : (zM j).1 = (zG j).1 := by rw [hR.1 j hj]
        have hq2 : (zM j).2 = (zG j).2 := by rw [hR.1 j hj]
        by_cases hs : 2 ≤ (zG j).1
        · obtain ⟨kc, hkc, hci, hco⟩ := hR.2.1 j hj (by omega)
          refine lv_aload_n hx hb d_La_law_403 rfl (lv_at hl 1 rfl) ?_
          refine lv_aload_n hx hb d_La_law_404 rfl (lv_at hl 0 rfl) ?_
          refine lv_iload hx hb d_La_law_405 (lv_at hl 4 rfl) ?_
          refine lv_iconst (v := nI 1) hx hb d_La_law_407 (by decide +kernel) ?_
          refine lv_iadd hx hb d_La_law_408 ?_
          refine aw_ti (nI_add (6 * t) 1) ?_
          refine va_sld hx hb hX hbl hbA hS (i := (nI ((6 * t) + 1))) (vp_in_nI (by omega) (by omega)) d_La_law_409 ?_
          refine aw_ti (y := nI j) (by rw [nI_clamp (by omega)]; exact hc0.symm) ?_
          refine lv_aload_n hx hb d_La_law_410 rfl (lv_at hl 0 rfl) ?_
          refine lv_iload hx hb d_La_law_411 (lv_at hl 4 rfl) ?_
          refine lv_iconst (v := nI 2) hx hb d_La_law_413 (by decide +kernel) ?_
          refine lv_iadd hx hb d_La_law_414 ?_
          refine aw_ti (nI_add (6 * t) 2) ?_
          refine va_sld hx hb hX hbl hbA hS (i := (nI ((6 * t) + 2))) (vp_in_nI (by omega) (by omega)) d_La_law_415 ?_
          refine aw_ti (y := s2) (by rw [nI_clamp (by omega)]; exact hs2.symm) ?_
          have hj180 : ∀ x181 : Int32, (if s2 = 0 then nI 0 else nI 1) = x181 → W p l e room_1 s m #[Value.ref b] below meth c H locs (85 + t) (1246 + 6 * t) (lw_Z below #[Value.ref b] s) (F0 m 424 ls [.int x181, .int (nI j), .ref (aw_r ad 0)]) := by
            intro x181 ebx181
            refine lv_aload_n hx hb d_La_law_424 rfl (lv_at hl 0 rfl) ?_
            refine lv_iload hx hb d_La_law_425 (lv_at hl 4 rfl) ?_
            refine lv_iconst (v := nI 3) hx hb d_La_law_427 (by decide +kernel) ?_
            refine lv_iadd hx hb d_La_law_428 ?_
            refine aw_ti (nI_add (6 * t) 3) ?_
            refine va_sld hx hb hX hbl hbA hS (i := (nI ((6 * t) + 3))) (vp_in_nI (by omega) (by omega)) d_La_law_429 ?_
            refine aw_ti (y := s3) (by rw [nI_clamp (by omega)]; exact hs3.symm) ?_
            refine lv_i2l hx hb d_La_law_430 rfl ?_
            refine ag_topl (fun y182 ey182 => ?_)
            refine lv_bipush (v := nI 32) hx hb d_La_law_431 (by decide +kernel) ?_
            refine lv_lshl hx hb d_La_law_433 rfl ?_
            refine ag_topl (fun y183 ey183 => ?_)
            refine lv_aload_n hx hb d_La_law_434 rfl (lv_at hl 0 rfl) ?_
            refine lv_iload hx hb d_La_law_435 (lv_at hl 4 rfl) ?_
            refine lv_iconst (v := nI 4) hx hb d_La_law_437 (by decide +kernel) ?_
            refine lv_iadd hx hb d_La_law_438 ?_
            refine aw_ti (nI_add (6 * t) 4) ?_
            refine va_sld hx hb hX hbl hbA hS (i := (nI ((6 * t) + 4))) (vp_in_nI (by omega) (by omega)) d_La_law_439 ?_
            refine aw_ti (y := s4) (by rw [nI_clamp (by omega)]; exact hs4.symm) ?_
            refine lv_i2l hx hb d_La_law_440 rfl ?_
            refine ag_topl (fun y184 ey184 => ?_)
            refine lv_ldc2 (v := 4294967295) hx hb hown (hG _ gw_13_3) d_La_law_441 ?_
            refine lv_land hx hb d_La_law_444 ?_
            refine ag_topl (fun y185 ey185 => ?_)
            refine lv_lor hx hb d_La_law_445 ?_
            refine ag_topl (fun y186 ey186 => ?_)
            refine lv_aload_n hx hb d_La_law_446 rfl (lv_at hl 3 rfl) ?_
            refine va_calli (vx_runSW (As := [.ref (aw_r ad 0), .int (nI j), .int x181, .long y186, .ref (aw_o ad)]) (rest := []) ⟨hx, hb, hml, hown, hG⟩ (k_La_block1V l hst D g ad N0 zG zO zX zY zA zB zM zI zL zK zN zF zQ j x181 y186 hj (by omega)) (aw_wW 5 hG gw_5_55 gw_5_53 gw_0_0 gw_5_54 rfl rfl hd_La_block ⟨Nat.le_of_ble_eq_true rfl, Nat.le_of_ble_eq_true rfl⟩) (ag_qS hP hD hSh hU hS) rfl rfl hl.1 rfl (lv_room (Nat.le_of_ble_eq_true rfl)) d_La_law_447 ⟨by omega, by omega⟩) hS (fun _ _ h => h) (fun _ h => h) ?_
            clear hP hD hSh hS
            intro x187 u8 t8 H locs ht _ ex187 hB _ _ hS
            obtain ⟨L, hP, hD, hSh⟩ := hB
            rw [ht] at hP
            clear ht
            subst ex187
            obtain ⟨zQ188, ezQ188⟩ : ∃ z : Int64, v_La_block1V_zQ zO zA j x181 y186 = z := ⟨_, rfl⟩
            rw [ezQ188] at hSh
            refine lv_istore hx hb d_La_law_450 hl (by decide) rfl (fun ls hl => ?_)
            have hl : lv_has ls 8 [(5, .int (nI 0)), (0, .ref b), (1, .ref (aw_r ad 0)), (2, .ref (aw_m ad 0)), (3, .ref (aw_o ad)), (4, .int (nI (6 * t)))] := hl
            refine lv_aload_n hx hb d_La_law_452 rfl (lv_at hl 3 rfl) ?_
            refine lv_aload_n hx hb d_La_law_453 rfl (lv_at hl 1 rfl) ?_
            refine lv_iload hx hb d_La_law_454 (lv_at hl 5 rfl) ?_
            refine lv_iconst (v := nI 1) hx hb d_La_law_456 (by decide +kernel) ?_
            refine lv_iadd hx hb d_La_law_457 ?_
            refine aw_ti (nI_add (6 * t) 1) ?_
            refine va_sld hx hb hX hbl hbA hS (i := (nI ((6 * t) + 1))) (vp_in_nI (by omega) (by omega)) d_La_law_458 ?_
            refine aw_ti (y := nI j) (by rw [nI_clamp (by omega)]; exact hc0.symm) ?_
            refine lv_aload_n hx hb d_La_law_459 rfl (lv_at hl 1 rfl) ?_
            refine lv_iload hx hb d_La_law_460 (lv_at hl 5 rfl) ?_
            refine lv_iconst (v := nI 2) hx hb d_La_law_462 (by decide +kernel) ?_
            refine lv_iadd hx hb d_La_law_463 ?_
            refine aw_ti (nI_add (6 * t) 2) ?_
            refine va_sld hx hb hX hbl hbA hS (i := (nI ((6 * t) + 2))) (vp_in_nI (by omega) (by omega)) d_La_law_464 ?_
            refine aw_ti (y := s2) (by rw [nI_clamp (by omega)]; exact hs2.symm) ?_
            have hj189 : ∀ x190 : Int32, (if s2 = 0 then nI 0 else nI 1) = x190 → W p l e room_1 s m #[Value.ref b] below meth c H locs ((85 + t) + 1) ((1246 + 6 * t) + 6) (lw_Z below #[Value.ref b] s) (F0 m 473 ls [.int x190, .int (nI j), .ref (aw_m ad 0)]) := by
              intro x190 ebx190
              refine lv_aload_n hx hb d_La_law_473 rfl (lv_at hl 1 rfl) ?_
              refine lv_iload hx hb d_La_law_474 (lv_at hl 5 rfl) ?_
              refine lv_iconst (v := nI 3) hx hb d_La_law_476 (by decide +kernel) ?_
              refine lv_iadd hx hb d_La_law_477 ?_
              refine aw_ti (nI_add (6 * t) 3) ?_
              refine va_sld hx hb hX hbl hbA hS (i := (nI ((6 * t) + 3))) (vp_in_nI (by omega) (by omega)) d_La_law_478 ?_
              refine aw_ti (y := s3) (by rw [nI_clamp (by omega)]; exact hs3.symm) ?_
              refine lv_i2l hx hb d_La_law_479 rfl ?_
              refine ag_topl (fun y191 ey191 => ?_)
              refine lv_bipush (v := nI 32) hx hb d_La_law_480 (by decide +kernel) ?_
              refine lv_lshl hx hb d_La_law_482 rfl ?_
              refine ag_topl (fun y192 ey192 => ?_)
              refine lv_aload_n hx hb d_La_law_483 rfl (lv_at hl 1 rfl) ?_
              refine lv_iload hx hb d_La_law_484 (lv_at hl 5 rfl) ?_
              refine lv_iconst (v := nI 4) hx hb d_La_law_486 (by decide +kernel) ?_
              refine lv_iadd hx hb d_La_law_487 ?_
              refine aw_ti (nI_add (6 * t) 4) ?_
              refine va_sld hx hb hX hbl hbA hS (i := (nI ((6 * t) + 4))) (vp_in_nI (by omega) (by omega)) d_La_law_488 ?_
              refine aw_ti (y := s4) (by rw [nI_clamp (by omega)]; exact hs4.symm) ?_
              refine lv_i2l hx hb d_La_law_489 rfl ?_
              refine ag_topl (fun y193 ey193 => ?_)
              refine lv_ldc2 (v := 4294967295) hx hb hown (hG _ gw_13_3) d_La_law_490 ?_
              refine lv_land hx hb d_La_law_493 ?_
              refine ag_topl (fun y194 ey194 => ?_)
              refine lv_lor hx hb d_La_law_494 ?_
              refine ag_topl (fun y195 ey195 => ?_)
              obtain ⟨_, he196⟩ := zr_M0 hSh
              refine va_calll (va_runV (As := [.int (nI j), .int x190, .long y195]) (rest := []) ⟨hx, hb, hml, hown, hG⟩ (k_Mo_block1V l D g ad N0 zG zO zX zY zA zB zM zI zL zK zN zF zQ188 j kc x190 y195 hj (by omega) hkc hci) (aw_wV 3 hG gw_11_3 gw_11_0 gw_0_10 gw_11_1 gw_11_2 rfl rfl hd_Mo_block ⟨Nat.le_of_ble_eq_true rfl, Nat.le_of_ble_eq_true rfl⟩) (ag_qV (va_recv hK hP rfl he196) hP hD hSh hU hS) rfl rfl hl.1 rfl (lv_room (Nat.le_of_ble_eq_true rfl)) d_La_law_495 ⟨by omega, by omega⟩) hS (fun _ _ h => h) (fun _ h => h) ?_
              clear hP hD hSh hS he196
              intro y197 u8 t8 H locs ht _ ey197 hB _ _ hS
              obtain ⟨L, hP, hD, hSh⟩ := hB
              rw [ht] at hP
              clear ht
              obtain ⟨zI198, ezI198⟩ : ∃ z : Nat → Nat → Int32, v_Mo_block1V_zI zI zL j kc x190 y195 = z := ⟨_, rfl⟩
              rw [ezI198] at hSh
              have ey197 := ey197.symm
              refine lv_lstore hx hb d_La_law_498 hl (by decide) rfl (fun ls hl => ?_)
              have hl : lv_has ls 8 [(6, .long y197), (5, .int (nI 0)), (0, .ref b), (1, .ref (aw_r ad 0)), (2, .ref (aw_m ad 0)), (3, .ref (aw_o ad)), (4, .int (nI (6 * t)))] := hl
              refine lv_goto (tgt := 837) hx hb d_La_law_500 (by decide) ?_
              refine lv_iinc (k := 6) (v := nI (6 * t + 6)) hx hb d_La_law_837 hl rfl (aw_inc (6 * t) 6 6 (by decide +kernel)) (by decide) rfl (fun ls hl => ?_)
              have hl : lv_has ls 8 [(4, .int (nI (6 * t + 6))), (6, .long y197), (5, .int (nI 0)), (0, .ref b), (1, .ref (aw_r ad 0)), (2, .ref (aw_m ad 0)), (3, .ref (aw_o ad))] := hl
              refine lv_goto (tgt := 23) hx hb d_La_law_840 (by decide) ?_
              have hl := lv_sub hl (l' := [(0, .ref b), (1, .ref (aw_r ad 0)), (2, .ref (aw_m ad 0)), (3, .ref (aw_o ad)), (4, .int (nI (6 * t + 6)))]) [3, 4, 5, 6, 0] rfl
              refine W.widen (k := 85 + (t + 1)) (n := 1246 + 6 * (t + 1)) (by omega) (by omega) ?_
              have hR : az_R zG zO zX zY zA zB zM zI198 zL := by
                subst ey197 ezI198 ey195 ey194 ey193 ey192 ey191 ebx190 ezQ188 ey186 ey185 ey184 ey183 ey182 ebx181
                exact r_block1 hR hj hs hkc hci hco
              exact ih (t + 1) zG zO zX zY zA zB zM zI198 zL (nI kc) (az_wn kc) (nI 0) zQ188 _ _ L ls (by omega) hP hD hSh hR hS (by first | exact hl | simpa [Nat.mul_add] using hl)
            refine lv_if_eq (tgt := 472) hx hb d_La_law_465 (by decide) (fun h9 => ?_) (fun h9 => ?_)
            · refine lv_iconst (v := nI 0) hx hb d_La_law_472 (by decide +kernel) ?_
              exact hj189 _ (if_pos h9)
            · refine lv_iconst (v := nI 1) hx hb d_La_law_468 (by decide +kernel) ?_
              refine lv_goto (tgt := 473) hx hb d_La_law_469 (by decide) ?_
              exact hj189 _ (if_neg h9)
          refine lv_if_eq (tgt := 423) hx hb d_La_law_416 (by decide) (fun h9 => ?_) (fun h9 => ?_)
          · refine lv_iconst (v := nI 0) hx hb d_La_law_423 (by decide +kernel) ?_
            exact hj180 _ (if_pos h9)
          · refine lv_iconst (v := nI 1) hx hb d_La_law_419 (by decide +kernel) ?_
            refine lv_goto (tgt := 424) hx hb d_La_law_420 (by decide) ?_
            exact hj180 _ (if_neg h9)
        · refine lv_aload_n hx hb d_La_law_403 rfl (lv_at hl 1 rfl) ?_
          refine lv_aload_n hx hb d_La_law_404 rfl (lv_at hl 0 rfl) ?_
          refine lv_iload hx hb d_La_law_405 (lv_at hl 4 rfl) ?_
          refine lv_iconst (v := nI 1) hx hb d_La_law_407 (by decide +kernel) ?_
          refine lv_iadd hx hb d_La_law_408 ?_
          refine aw_ti (nI_add (6 * t) 1) ?_
          refine va_sld hx hb hX hbl hbA hS (i := (nI ((6 * t) + 1))) (vp_in_nI (by omega) (by omega)) d_La_law_409 ?_
          refine aw_ti (y := nI j) (by rw [nI_clamp (by omega)]; exact hc0.symm) ?_
          refine lv_aload_n hx hb d_La_law_410 rfl (lv_at hl 0 rfl) ?_
          refine lv_iload hx hb d_La_law_411 (lv_at hl 4 rfl) ?_
          refine lv_iconst (v := nI 2) hx hb d_La_law_413 (by decide +kernel) ?_
          refine lv_iadd hx hb d_La_law_414 ?_
          refine aw_ti (nI_add (6 * t) 2) ?_
          refine va_sld hx hb hX hbl hbA hS (i := (nI ((6 * t) + 2))) (vp_in_nI (by omega) (by omega)) d_La_law_415 ?_
          refine aw_ti (y := s2) (by rw [nI_clamp (by omega)]; exact hs2.symm) ?_
          have hj199 : ∀ x200 : Int32, (if s2 = 0 then nI 0 else nI 1) = x200 → W p l e room_1 s m #[Value.ref b] below meth c H locs (85 + t) (1246 + 6 * t) (lw_Z below #[Value.ref b] s) (F0 m 424 ls [.int x200, .int (nI j), .ref (aw_r ad 0)]) := by
            intro x200 ebx200
            refine lv_aload_n hx hb d_La_law_424 rfl (lv_at hl 0 rfl) ?_
            refine lv_iload hx hb d_La_law_425 (lv_at hl 4 rfl) ?_
            refine lv_iconst (v := nI 3) hx hb d_La_law_427 (by decide +kernel) ?_
            refine lv_iadd hx hb d_La_law_428 ?_
            refine aw_ti (nI_add (6 * t) 3) ?_
            refine va_sld hx hb hX hbl hbA hS (i := (nI ((6 * t) + 3))) (vp_in_nI (by omega) (by omega)) d_La_law_429 ?_
            refine aw_ti (y := s3) (by rw [nI_clamp (by omega)]; exact hs3.symm) ?_
            refine lv_i2l hx hb d_La_law_430 rfl ?_
            refine ag_topl (fun y201 ey201 => ?_)
            refine lv_bipush (v := nI 32) hx hb d_La_law_431 (by decide +kernel) ?_
            refine lv_lshl hx hb d_La_law_433 rfl ?_
            refine ag_topl (fun y202 ey202 => ?_)
            refine lv_aload_n hx hb d_La_law_434 rfl (lv_at hl 0 rfl) ?_
            refine lv_iload hx hb d_La_law_435 (lv_at hl 4 rfl) ?_
            refine lv_iconst (v := nI 4) hx hb d_La_law_437 (by decide +kernel) ?_
            refine lv_iadd hx hb d_La_law_438 ?_
            refine aw_ti (nI_add (6 * t) 4) ?_
            refine va_sld hx hb hX hbl hbA hS (i := (nI ((6 * t) + 4))) (vp_in_nI (by omega) (by omega)) d_La_law_439 ?_
            refine aw_ti (y := s4) (by rw [nI_clamp (by omega)]; exact hs4.symm) ?_
            refine lv_i2l hx hb d_La_law_440 rfl ?_
            refine ag_topl (fun y203 ey203 => ?_)
            refine lv_ldc2 (v := 4294967295) hx hb hown (hG _ gw_13_3) d_La_law_441 ?_
            refine lv_land hx hb d_La_law_444 ?_
            refine ag_topl (fun y204 ey204 => ?_)
            refine lv_lor hx hb d_La_law_445 ?_
            refine ag_topl (fun y205 ey205 => ?_)
            refine lv_aload_n hx hb d_La_law_446 rfl (lv_at hl 3 rfl) ?_
            refine va_calli (vx_runSW (As := [.ref (aw_r ad 0), .int (nI j), .int x200, .long y205, .ref (aw_o ad)]) (rest := []) ⟨hx, hb, hml, hown, hG⟩ (k_La_blockXsV l hst D g ad N0 zG zO zX zY zA zB zM zI zL zK zN zF zQ j x200 y205 hj (by omega)) (aw_wW 5 hG gw_5_55 gw_5_53 gw_0_0 gw_5_54 rfl rfl hd_La_block ⟨Nat.le_of_ble_eq_true rfl, Nat.le_of_ble_eq_true rfl⟩) (ag_qS hP hD hSh hU hS) rfl rfl hl.1 rfl (lv_room (Nat.le_of_ble_eq_true rfl)) d_La_law_447 ⟨by omega, by omega⟩) hS (fun _ _ h => h) (fun _ h => h) ?_
            clear hP hD hSh hS
            intro x206 u8 t8 H locs ht _ ex206 hB _ _ hS
            obtain ⟨L, hP, hD, hSh⟩ := hB
            rw [ht] at hP
            clear ht
            subst ex206
            refine lv_istore hx hb d_La_law_450 hl (by decide) rfl (fun ls hl => ?_)
            have hl : lv_has ls 8 [(5, .int (nI 2)), (0, .ref b), (1, .ref (aw_r ad 0)), (2, .ref (aw_m ad 0)), (3, .ref (aw_o ad)), (4, .int (nI (6 * t)))] := hl
            refine lv_aload_n hx hb d_La_law_452 rfl (lv_at hl 3 rfl) ?_
            refine lv_aload_n hx hb d_La_law_453 rfl (lv_at hl 1 rfl) ?_
            refine lv_iload hx hb d_La_law_454 (lv_at hl 5 rfl) ?_
            refine lv_iconst (v := nI 1) hx hb d_La_law_456 (by decide +kernel) ?_
            refine lv_iadd hx hb d_La_law_457 ?_
            refine aw_ti (nI_add (6 * t) 1) ?_
            refine va_sld hx hb hX hbl hbA hS (i := (nI ((6 * t) + 1))) (vp_in_nI (by omega) (by omega)) d_La_law_458 ?_
            refine aw_ti (y := nI j) (by rw [nI_clamp (by omega)]; exact hc0.symm) ?_
            refine lv_aload_n hx hb d_La_law_459 rfl (lv_at hl 1 rfl) ?_
            refine lv_iload hx hb d_La_law_460 (lv_at hl 5 rfl) ?_
            refine lv_iconst (v := nI 2) hx hb d_La_law_462 (by decide +kernel) ?_
            refine lv_iadd hx hb d_La_law_463 ?_
            refine aw_ti (nI_add (6 * t) 2) ?_
            refine va_sld hx hb hX hbl hbA hS (i := (nI ((6 * t) + 2))) (vp_in_nI (by omega) (by omega)) d_La_law_464 ?_
            refine aw_ti (y := s2) (by rw [nI_clamp (by omega)]; exact hs2.symm) ?_
            have hj207 : ∀ x208 : Int32, (if s2 = 0 then nI 0 else nI 1) = x208 → W p l e room_1 s m #[Value.ref b] below meth c H locs ((85 + t) + 1) ((1246 + 6 * t) + 6) (lw_Z below #[Value.ref b] s) (F0 m 473 ls [.int x208, .int (nI j), .ref (aw_m ad 0)]) := by
              intro x208 ebx208
              refine lv_aload_n hx hb d_La_law_473 rfl (lv_at hl 1 rfl) ?_
              refine lv_iload hx hb d_La_law_474 (lv_at hl 5 rfl) ?_
              refine lv_iconst (v := nI 3) hx hb d_La_law_476 (by decide +kernel) ?_
              refine lv_iadd hx hb d_La_law_477 ?_
              refine aw_ti (nI_add (6 * t) 3) ?_
              refine va_sld hx hb hX hbl hbA hS (i := (nI ((6 * t) + 3))) (vp_in_nI (by omega) (by omega)) d_La_law_478 ?_
              refine aw_ti (y := s3) (by rw [nI_clamp (by omega)]; exact hs3.symm) ?_
              refine lv_i2l hx hb d_La_law_479 rfl ?_
              refine ag_topl (fun y209 ey209 => ?_)
              refine lv_bipush (v := nI 32) hx hb d_La_law_480 (by decide +kernel) ?_
              refine lv_lshl hx hb d_La_law_482 rfl ?_
              refine ag_topl (fun y210 ey210 => ?_)
              refine lv_aload_n hx hb d_La_law_483 rfl (lv_at hl 1 rfl) ?_
              refine lv_iload hx hb d_La_law_484 (lv_at hl 5 rfl) ?_
              refine lv_iconst (v := nI 4) hx hb d_La_law_486 (by decide +kernel) ?_
              refine lv_iadd hx hb d_La_law_487 ?_
              refine aw_ti (nI_add (6 * t) 4) ?_
              refine va_sld hx hb hX hbl hbA hS (i := (nI ((6 * t) + 4))) (vp_in_nI (by omega) (by omega)) d_La_law_488 ?_
              refine aw_ti (y := s4) (by rw [nI_clamp (by omega)]; exact hs4.symm) ?_
              refine lv_i2l hx hb d_La_law_489 rfl ?_
              refine ag_topl (fun y211 ey211 => ?_)
              refine lv_ldc2 (v := 4294967295) hx hb hown (hG _ gw_13_3) d_La_law_490 ?_
              refine lv_land hx hb d_La_law_493 ?_
              refine ag_topl (fun y212 ey212 => ?_)
              refine lv_lor hx hb d_La_law_494 ?_
              refine ag_topl (fun y213 ey213 => ?_)
              obtain ⟨_, he214⟩ := zr_M0 hSh
              refine va_calll (va_runV (As := [.int (nI j), .int x208, .long y213]) (rest := []) ⟨hx, hb, hml, hown, hG⟩ (k_Mo_blockXsV l D g ad N0 zG zO zX zY zA zB zM zI zL zK zN zF zQ j x208 y213 hj (by omega)) (aw_wV 3 hG gw_11_3 gw_11_0 gw_0_10 gw_11_1 gw_11_2 rfl rfl hd_Mo_block ⟨Nat.le_of_ble_eq_true rfl, Nat.le_of_ble_eq_true rfl⟩) (ag_qV (va_recv hK hP rfl he214) hP hD hSh hU hS) rfl rfl hl.1 rfl (lv_room (Nat.le_of_ble_eq_true rfl)) d_La_law_495 ⟨by omega, by omega⟩) hS (fun _ _ h => h) (fun _ h => h) ?_
              clear hP hD hSh hS he214
              intro y215 u8 t8 H locs ht _ ey215 hB _ _ hS
              obtain ⟨L, hP, hD, hSh⟩ := hB
              rw [ht] at hP
              clear ht
              have ey215 := ey215.symm
              refine lv_lstore hx hb d_La_law_498 hl (by decide) rfl (fun ls hl => ?_)
              have hl : lv_has ls 8 [(6, .long y215), (5, .int (nI 2)), (0, .ref b), (1, .ref (aw_r ad 0)), (2, .ref (aw_m ad 0)), (3, .ref (aw_o ad)), (4, .int (nI (6 * t)))] := hl
              refine lv_goto (tgt := 837) hx hb d_La_law_500 (by decide) ?_
              refine lv_iinc (k := 6) (v := nI (6 * t + 6)) hx hb d_La_law_837 hl rfl (aw_inc (6 * t) 6 6 (by decide +kernel)) (by decide) rfl (fun ls hl => ?_)
              have hl : lv_has ls 8 [(4, .int (nI (6 * t + 6))), (6, .long y215), (5, .int (nI 2)), (0, .ref b), (1, .ref (aw_r ad 0)), (2, .ref (aw_m ad 0)), (3, .ref (aw_o ad))] := hl
              refine lv_goto (tgt := 23) hx hb d_La_law_840 (by decide) ?_
              have hl := lv_sub hl (l' := [(0, .ref b), (1, .ref (aw_r ad 0)), (2, .ref (aw_m ad 0)), (3, .ref (aw_o ad)), (4, .int (nI (6 * t + 6)))]) [3, 4, 5, 6, 0] rfl
              refine W.widen (k := 85 + (t + 1)) (n := 1246 + 6 * (t + 1)) (by omega) (by omega) ?_
              exact ih (t + 1) zG zO zX zY zA zB zM zI zL zK zN (nI 2) zQ _ _ L ls (by omega) hP hD hSh hR hS (by first | exact hl | simpa [Nat.mul_add] using hl)
            refine lv_if_eq (tgt := 472) hx hb d_La_law_465 (by decide) (fun h9 => ?_) (fun h9 => ?_)
            · refine lv_iconst (v := nI 0) hx hb d_La_law_472 (by decide +kernel) ?_
              exact hj207 _ (if_pos h9)
            · refine lv_iconst (v := nI 1) hx hb d_La_law_468 (by decide +kernel) ?_
              refine lv_goto (tgt := 473) hx hb d_La_law_469 (by decide) ?_
              exact hj207 _ (if_neg h9)
          refine lv_if_eq (tgt := 423) hx hb d_La_law_416 (by decide) (fun h9 => ?_) (fun h9 => ?_)
          · refine lv_iconst (v := nI 0) hx hb d_La_law_423 (by decide +kernel) ?_
            exact hj199 _ (if_pos h9)
          · refine lv_iconst (v := nI 1) hx hb d_La_law_419 (by decide +kernel) ?_
            refine lv_goto (tgt := 424) hx hb d_La_law_420 (by decide) ?_
            exact hj199 _ (if_neg h9)
    · refine aw_ti (y := nI 6) (by rw [hs3]) ?_
      refine lv_tableIn (tgt := 503) (off := 463) hx hb d_La_law_40 (by decide +kernel) (by decide +kernel) (by decide +kernel) (by decide) ?_
      obtain ⟨c0, hc0⟩ : ∃ z : Int32, z = xs (6 * t + 1) := ⟨_, rfl⟩
      obtain ⟨s2, hs2⟩ : ∃ z : Int32, z = xs (6 * t + 2) := ⟨_, rfl⟩
      rcases aw_rng 4 (by decide) c0 with hc | ⟨j, hj, rfl⟩
      · refine lv_aload_n hx hb d_La_law_503 rfl (lv_at hl 1 rfl) ?_
        refine lv_aload_n hx hb d_La_law_504 rfl (lv_at hl 0 rfl) ?_
        refine lv_iload hx hb d_La_law_505 (lv_at hl 4 rfl) ?_
        refine lv_iconst (v := nI 1) hx hb d_La_law_507 (by decide +kernel) ?_
        refine lv_iadd hx hb d_La_law_508 ?_
        refine aw_ti (nI_add (6 * t) 1) ?_
        refine va_sld hx hb hX hbl hbA hS (i := (nI ((6 * t) + 1))) (vp_in_nI (by omega) (by omega)) d_La_law_509 ?_
        refine aw_ti (y := c0) (by rw [nI_clamp (by omega)]; exact hc0.symm) ?_
        refine lv_aload_n hx hb d_La_law_510 rfl (lv_at hl 0 rfl) ?_
        refine lv_iload hx hb d_La_law_511 (lv_at hl 4 rfl) ?_
        refine lv_iconst (v := nI 2) hx hb d_La_law_513 (by decide +kernel) ?_
        refine lv_iadd hx hb d_La_law_514 ?_
        refine aw_ti (nI_add (6 * t) 2) ?_
        refine va_sld hx hb hX hbl hbA hS (i := (nI ((6 * t) + 2))) (vp_in_nI (by omega) (by omega)) d_La_law_515 ?_
        refine aw_ti (y := s2) (by rw [nI_clamp (by omega)]; exact hs2.symm) ?_
        refine lv_aload_n hx hb d_La_law_516 rfl (lv_at hl 3 rfl) ?_
        refine va_calli (vx_runSW (As := [.ref (aw_r ad 0), .int c0, .int s2, .ref (aw_o ad)]) (rest := []) ⟨hx, hb, hml, hown, hG⟩ (k_La_wordXcV l hst D g ad N0 zG zO zX zY zA zB zM zI zL zK zN zF zQ c0 s2 hc) (aw_wW 4 hG gw_7_9 gw_7_7 gw_0_0 gw_7_8 rfl rfl hd_La_word ⟨Nat.le_of_ble_eq_true rfl, Nat.le_of_ble_eq_true rfl⟩) (ag_qS hP hD hSh hU hS) rfl rfl hl.1 rfl (lv_room (Nat.le_of_ble_eq_true rfl)) d_La_law_517 ⟨by omega, by omega⟩) hS (fun _ _ h => h) (fun _ h => h) ?_
        clear hP hD hSh hS
        intro x216 u8 t8 H locs ht _ ex216 hB _ _ hS
        obtain ⟨L, hP, hD, hSh⟩ := hB
        rw [ht] at hP
        clear ht
        subst ex216
        refine lv_istore hx hb d_La_law_520 hl (by decide) rfl (fun ls hl => ?_)
        have hl : lv_has ls 8 [(5, .int (nI 1)), (0, .ref b), (1, .ref (aw_r ad 0)), (2, .ref (aw_m ad 0)), (3, .ref (aw_o ad)), (4, .int (nI (6 * t)))] := hl
        refine lv_aload_n hx hb d_La_law_522 rfl (lv_at hl 3 rfl) ?_
        refine lv_aload_n hx hb d_La_law_523 rfl (lv_at hl 1 rfl) ?_
        refine lv_iload hx hb d_La_law_524 (lv_at hl 5 rfl) ?_
        refine lv_iconst (v := nI 1) hx hb d_La_law_526 (by decide +kernel) ?_
        refine lv_iadd hx hb d_La_law_527 ?_
        refine aw_ti (nI_add (6 * t) 1) ?_
        refine va_sld hx hb hX hbl hbA hS (i := (nI ((6 * t) + 1))) (vp_in_nI (by omega) (by omega)) d_La_law_528 ?_
        refine aw_ti (y := c0) (by rw [nI_clamp (by omega)]; exact hc0.symm) ?_
        refine lv_aload_n hx hb d_La_law_529 rfl (lv_at hl 1 rfl) ?_
        refine lv_iload hx hb d_La_law_530 (lv_at hl 5 rfl) ?_
        refine lv_iconst (v := nI 2) hx hb d_La_law_532 (by decide +kernel) ?_
        refine lv_iadd hx hb d_La_law_533 ?_
        refine aw_ti (nI_add (6 * t) 2) ?_
        refine va_sld hx hb hX hbl hbA hS (i := (nI ((6 * t) + 2))) (vp_in_nI (by omega) (by omega)) d_La_law_534 ?_
        refine aw_ti (y := s2) (by rw [nI_clamp (by omega)]; exact hs2.symm) ?_
        obtain ⟨_, he217⟩ := zr_M0 hSh
        refine va_calli (va_runV (As := [.int c0, .int s2]) (rest := []) ⟨hx, hb, hml, hown, hG⟩ (k_Mo_wordXcV l D g ad N0 zG zO zX zY zA zB zM zI zL zK zN zF zQ c0 s2 hc) (aw_wV 2 hG gw_12_14 gw_12_11 gw_0_10 gw_12_12 gw_12_13 rfl rfl hd_Mo_word ⟨Nat.le_of_ble_eq_true rfl, Nat.le_of_ble_eq_true rfl⟩) (ag_qV (va_recv hK hP rfl he217) hP hD hSh hU hS) rfl rfl hl.1 rfl (lv_room (Nat.le_of_ble_eq_true rfl)) d_La_law_535 ⟨by omega, by omega⟩) hS (fun _ _ h => h) (fun _ h => h) ?_
        clear hP hD hSh hS he217
        intro x218 u8 t8 H locs ht _ ex218 hB _ _ hS
        obtain ⟨L, hP, hD, hSh⟩ := hB
        rw [ht] at hP
        clear ht
        have ex218 := ex218.symm
        refine lv_istore hx hb d_La_law_538 hl (by decide) rfl (fun ls hl => ?_)
        have hl : lv_has ls 8 [(6, .int x218), (5, .int (nI 1)), (0, .ref b), (1, .ref (aw_r ad 0)), (2, .ref (aw_m ad 0)), (3, .ref (aw_o ad)), (4, .int (nI (6 * t)))] := hl
        refine lv_goto (tgt := 837) hx hb d_La_law_540 (by decide) ?_
        refine lv_iinc (k := 6) (v := nI (6 * t + 6)) hx hb d_La_law_837 hl rfl (aw_inc (6 * t) 6 6 (by decide +kernel)) (by decide) rfl (fun ls hl => ?_)
        have hl : lv_has ls 8 [(4, .int (nI (6 * t + 6))), (6, .int x218), (5, .int (nI 1)), (0, .ref b), (1, .ref (aw_r ad 0)), (2, .ref (aw_m ad 0)), (3, .ref (aw_o ad))] := hl
        refine lv_goto (tgt := 23) hx hb d_La_law_840 (by decide) ?_
        have hl := lv_sub hl (l' := [(0, .ref b), (1, .ref (aw_r ad 0)), (2, .ref (aw_m ad 0)), (3, .ref (aw_o ad)), (4, .int (nI (6 * t + 6)))]) [3, 4, 5, 6, 0] rfl
        refine W.widen (k := 85 + (t + 1)) (n := 1246 + 6 * (t + 1)) (by omega) (by omega) ?_
        exact ih (t + 1) zG zO zX zY zA zB zM zI zL zK zN (nI 1) zQ _ _ L ls (by omega) hP hD hSh hR hS (by first | exact hl | simpa [Nat.mul_add] using hl)
      · have hgj := hSh.2.2.2.2.1 j hj
        have hq1 : (zM j).1 = (zG j).1 := by rw [hR.1 j hj]
        have hq2 : (zM j).2 = (zG j).2 := by rw [hR.1 j hj]
        by_cases hs : 2 ≤ (zG j).1
        · obtain ⟨kc, hkc, hci, hco⟩ := hR.2.1 j hj (by omega)
          refine lv_aload_n hx hb d_La_law_503 rfl (lv_at hl 1 rfl) ?_
          refine lv_aload_n hx hb d_La_law_504 rfl (lv_at hl 0 rfl) ?_
          refine lv_iload hx hb d_La_law_505 (lv_at hl 4 rfl) ?_
          refine lv_iconst (v := nI 1) hx hb d_La_law_507 (by decide +kernel) ?_
          refine lv_iadd hx hb d_La_law_508 ?_
          refine aw_ti (nI_add (6 * t) 1) ?_
          refine va_sld hx hb hX hbl hbA hS (i := (nI ((6 * t) + 1))) (vp_in_nI (by omega) (by omega)) d_La_law_509 ?_
          refine aw_ti (y := nI j) (by rw [nI_clamp (by omega)]; exact hc0.symm) ?_
          refine lv_aload_n hx hb d_La_law_510 rfl (lv_at hl 0 rfl) ?_
          refine lv_iload hx hb d_La_law_511 (lv_at hl 4 rfl) ?_
          refine lv_iconst (v := nI 2) hx hb d_La_law_513 (by decide +kernel) ?_
          refine lv_iadd hx hb d_La_law_514 ?_
          refine aw_ti (nI_add (6 * t) 2) ?_
          refine va_sld hx hb hX hbl hbA hS (i := (nI ((6 * t) + 2))) (vp_in_nI (by omega) (by omega)) d_La_law_515 ?_
          refine aw_ti (y := s2) (by rw [nI_clamp (by omega)]; exact hs2.symm) ?_
          refine lv_aload_n hx hb d_La_law_516 rfl (lv_at hl 3 rfl) ?_
          refine va_calli (vx_runSW (As := [.ref (aw_r ad 0), .int (nI j), .int s2, .ref (aw_o ad)]) (rest := []) ⟨hx, hb, hml, hown, hG⟩ (k_La_word1V l hst D g ad N0 zG zO zX zY zA zB zM zI zL zK zN zF zQ j s2 hj (by omega)) (aw_wW 4 hG gw_7_9 gw_7_7 gw_0_0 gw_7_8 rfl rfl hd_La_word ⟨Nat.le_of_ble_eq_true rfl, Nat.le_of_ble_eq_true rfl⟩) (ag_qS hP hD hSh hU hS) rfl rfl hl.1 rfl (lv_room (Nat.le_of_ble_eq_true rfl)) d_La_law_517 ⟨by omega, by omega⟩) hS (fun _ _ h => h) (fun _ h => h) ?_
          clear hP hD hSh hS
          intro x219 u8 t8 H locs ht _ ex219 hB _ _ hS
          obtain ⟨L, hP, hD, hSh⟩ := hB
          rw [ht] at hP
          clear ht
          subst ex219
          obtain ⟨zQ220, ezQ220⟩ : ∃ z : Int64, v_La_word1V_zQ zO zA j s2 = z := ⟨_, rfl⟩
          rw [ezQ220] at hSh
          refine lv_istore hx hb d_La_law_520 hl (by decide) rfl (fun ls hl => ?_)
          have hl : lv_has ls 8 [(5, .int (nI 0)), (0, .ref b), (1, .ref (aw_r ad 0)), (2, .ref (aw_m ad 0)), (3, .ref (aw_o ad)), (4, .int (nI (6 * t)))] := hl
          refine lv_aload_n hx hb d_La_law_522 rfl (lv_at hl 3 rfl) ?_
          refine lv_aload_n hx hb d_La_law_523 rfl (lv_at hl 1 rfl) ?_
          refine lv_iload hx hb d_La_law_524 (lv_at hl 5 rfl) ?_
          refine lv_iconst (v := nI 1) hx hb d_La_law_526 (by decide +kernel) ?_
          refine lv_iadd hx hb d_La_law_527 ?_
          refine aw_ti (nI_add (6 * t) 1) ?_
          refine va_sld hx hb hX hbl hbA hS (i := (nI ((6 * t) + 1))) (vp_in_nI (by omega) (by omega)) d_La_law_528 ?_
          refine aw_ti (y := nI j) (by rw [nI_clamp (by omega)]; exact hc0.symm) ?_
          refine lv_aload_n hx hb d_La_law_529 rfl (lv_at hl 1 rfl) ?_
          refine lv_iload hx hb d_La_law_530 (lv_at hl 5 rfl) ?_
          refine lv_iconst (v := nI 2) hx hb d_La_law_532 (by decide +kernel) ?_
          refine lv_iadd hx hb d_La_law_533 ?_
          refine aw_ti (nI_add (6 * t) 2) ?_
          refine va_sld hx hb hX hbl hbA hS (i := (nI ((6 * t) + 2))) (vp_in_nI (by omega) (by omega)) d_La_law_534 ?_
          refine aw_ti (y := s2) (by rw [nI_clamp (by omega)]; exact hs2.symm) ?_
          obtain ⟨_, he221⟩ := zr_M0 hSh
          refine va_calli (va_runV (As := [.int (nI j), .int s2]) (rest := []) ⟨hx, hb, hml, hown, hG⟩ (k_Mo_word1V l D g ad N0 zG zO zX zY zA zB zM zI zL zK zN zF zQ220 j kc s2 hj (by omega) hkc hci) (aw_wV 2 hG gw_12_14 gw_12_11 gw_0_10 gw_12_12 gw_12_13 rfl rfl hd_Mo_word ⟨Nat.le_of_ble_eq_true rfl, Nat.le_of_ble_eq_true rfl⟩) (ag_qV (va_recv hK hP rfl he221) hP hD hSh hU hS) rfl rfl hl.1 rfl (lv_room (Nat.le_of_ble_eq_true rfl)) d_La_law_535 ⟨by omega, by omega⟩) hS (fun _ _ h => h) (fun _ h => h) ?_
          clear hP hD hSh hS he221
          intro x222 u8 t8 H locs ht _ ex222 hB _ _ hS
          obtain ⟨L, hP, hD, hSh⟩ := hB
          rw [ht] at hP
          clear ht
          obtain ⟨zI223, ezI223⟩ : ∃ z : Nat → Nat → Int32, v_Mo_word1V_zI zI zL j kc s2 = z := ⟨_, rfl⟩
          rw [ezI223] at hSh
          have ex222 := ex222.symm
          refine lv_istore hx hb d_La_law_538 hl (by decide) rfl (fun ls hl => ?_)
          have hl : lv_has ls 8 [(6, .int x222), (5, .int (nI 0)), (0, .ref b), (1, .ref (aw_r ad 0)), (2, .ref (aw_m ad 0)), (3, .ref (aw_o ad)), (4, .int (nI (6 * t)))] := hl
          refine lv_goto (tgt := 837) hx hb d_La_law_540 (by decide) ?_
          refine lv_iinc (k := 6) (v := nI (6 * t + 6)) hx hb d_La_law_837 hl rfl (aw_inc (6 * t) 6 6 (by decide +kernel)) (by decide) rfl (fun ls hl => ?_)
          have hl : lv_has ls 8 [(4, .int (nI (6 * t + 6))), (6, .int x222), (5, .int (nI 0)), (0, .ref b), (1, .ref (aw_r ad 0)), (2, .ref (aw_m ad 0)), (3, .ref (aw_o ad))] := hl
          refine lv_goto (tgt := 23) hx hb d_La_law_840 (by decide) ?_
          have hl := lv_sub hl (l' := [(0, .ref b), (1, .ref (aw_r ad 0)), (2, .ref (aw_m ad 0)), (3, .ref (aw_o ad)), (4, .int (nI (6 * t + 6)))]) [3, 4, 5, 6, 0] rfl
          refine W.widen (k := 85 + (t + 1)) (n := 1246 + 6 * (t + 1)) (by omega) (by omega) ?_
          have hR : az_R zG zO zX zY zA zB zM zI223 zL := by
            subst ex222 ezI223 ezQ220
            exact r_word1 hR hj hs hkc hci hco
          exact ih (t + 1) zG zO zX zY zA zB zM zI223 zL (nI kc) (az_wn kc) (nI 0) zQ220 _ _ L ls (by omega) hP hD hSh hR hS (by first | exact hl | simpa [Nat.mul_add] using hl)
        · refine lv_aload_n hx hb d_La_law_503 rfl (lv_at hl 1 rfl) ?_
          refine lv_aload_n hx hb d_La_law_504 rfl (lv_at hl 0 rfl) ?_
          refine lv_iload hx hb d_La_law_505 (lv_at hl 4 rfl) ?_
          refine lv_iconst (v := nI 1) hx hb d_La_law_507 (by decide +kernel) ?_
          refine lv_iadd hx hb d_La_law_508 ?_
          refine aw_ti (nI_add (6 * t) 1) ?_
          refine va_sld hx hb hX hbl hbA hS (i := (nI ((6 * t) + 1))) (vp_in_nI (by omega) (by omega)) d_La_law_509 ?_
          refine aw_ti (y := nI j) (by rw [nI_clamp (by omega)]; exact hc0.symm) ?_
          refine lv_aload_n hx hb d_La_law_510 rfl (lv_at hl 0 rfl) ?_
          refine lv_iload hx hb d_La_law_511 (lv_at hl 4 rfl) ?_
          refine lv_iconst (v := nI 2) hx hb d_La_law_513 (by decide +kernel) ?_
          refine lv_iadd hx hb d_La_law_514 ?_
          refine aw_ti (nI_add (6 * t) 2) ?_
          refine va_sld hx hb hX hbl hbA hS (i := (nI ((6 * t) + 2))) (vp_in_nI (by omega) (by omega)) d_La_law_515 ?_
          refine aw_ti (y := s2) (by rw [nI_clamp (by omega)]; exact hs2.symm) ?_
          refine lv_aload_n hx hb d_La_law_516 rfl (lv_at hl 3 rfl) ?_
          refine va_calli (vx_runSW (As := [.ref (aw_r ad 0), .int (nI j), .int s2, .ref (aw_o ad)]) (rest := []) ⟨hx, hb, hml, hown, hG⟩ (k_La_wordXsV l hst D g ad N0 zG zO zX zY zA zB zM zI zL zK zN zF zQ j s2 hj (by omega)) (aw_wW 4 hG gw_7_9 gw_7_7 gw_0_0 gw_7_8 rfl rfl hd_La_word ⟨Nat.le_of_ble_eq_true rfl, Nat.le_of_ble_eq_true rfl⟩) (ag_qS hP hD hSh hU hS) rfl rfl hl.1 rfl (lv_room (Nat.le_of_ble_eq_true rfl)) d_La_law_517 ⟨by omega, by omega⟩) hS (fun _ _ h => h) (fun _ h => h) ?_
          clear hP hD hSh hS
          intro x224 u8 t8 H locs ht _ ex224 hB _ _ hS
          obtain ⟨L, hP, hD, hSh⟩ := hB
          rw [ht] at hP
          clear ht
          subst ex224
          refine lv_istore hx hb d_La_law_520 hl (by decide) rfl (fun ls hl => ?_)
          have hl : lv_has ls 8 [(5, .int (nI 2)), (0, .ref b), (1, .ref (aw_r ad 0)), (2, .ref (aw_m ad 0)), (3, .ref (aw_o ad)), (4, .int (nI (6 * t)))] := hl
          refine lv_aload_n hx hb d_La_law_522 rfl (lv_at hl 3 rfl) ?_
          refine lv_aload_n hx hb d_La_law_523 rfl (lv_at hl 1 rfl) ?_
          refine lv_iload hx hb d_La_law_524 (lv_at hl 5 rfl) ?_
          refine lv_iconst (v := nI 1) hx hb d_La_law_526 (by decide +kernel) ?_
          refine lv_iadd hx hb d_La_law_527 ?_
          refine aw_ti (nI_add (6 * t) 1) ?_
          refine va_sld hx hb hX hbl hbA hS (i := (nI ((6 * t) + 1))) (vp_in_nI (by omega) (by omega)) d_La_law_528 ?_
          refine aw_ti (y := nI j) (by rw [nI_clamp (by omega)]; exact hc0.symm) ?_
          refine lv_aload_n hx hb d_La_law_529 rfl (lv_at hl 1 rfl) ?_
          refine lv_iload hx hb d_La_law_530 (lv_at hl 5 rfl) ?_
          refine lv_iconst (v := nI 2) hx hb d_La_law_532 (by decide +kernel) ?_
          refine lv_iadd hx hb d_La_law_533 ?_
          refine aw_ti (nI_add (6 * t) 2) ?_
          refine va_sld hx hb hX hbl hbA hS (i := (nI ((6 * t) + 2))) (vp_in_nI (by omega) (by omega)) d_La_law_534 ?_
          refine aw_ti (y := s2) (by rw [nI_clamp (by omega)]; exact hs2.symm) ?_
          obtain ⟨_, he225⟩ := zr_M0 hSh
          refine va_calli (va_runV (As := [.int (nI j), .int s2]) (rest := []) ⟨hx, hb, hml, hown, hG⟩ (k_Mo_wordXsV l D g ad N0 zG zO zX zY zA zB zM zI zL zK zN zF zQ j s2 hj (by omega)) (aw_wV 2 hG gw_12_14 gw_12_11 gw_0_10 gw_12_12 gw_12_13 rfl rfl hd_Mo_word ⟨Nat.le_of_ble_eq_true rfl, Nat.le_of_ble_eq_true rfl⟩) (ag_qV (va_recv hK hP rfl he225) hP hD hSh hU hS) rfl rfl hl.1 rfl (lv_room (Nat.le_of_ble_eq_true rfl)) d_La_law_535 ⟨by omega, by omega⟩) hS (fun _ _ h => h) (fun _ h => h) ?_
          clear hP hD hSh hS he225
          intro x226 u8 t8 H locs ht _ ex226 hB _ _ hS
          obtain ⟨L, hP, hD, hSh⟩ := hB
          rw [ht] at hP
          clear ht
          have ex226 := ex226.symm
          refine lv_istore hx hb d_La_law_538 hl (by decide) rfl (fun ls hl => ?_)
          have hl : lv_has ls 8 [(6, .int x226), (5, .int (nI 2)), (0, .ref b), (1, .ref (aw_r ad 0)), (2, .ref (aw_m ad 0)), (3, .ref (aw_o ad)), (4, .int (nI (6 * t)))] := hl
          refine lv_goto (tgt := 837) hx hb d_La_law_540 (by decide) ?_
          refine lv_iinc (k := 6) (v := nI (6 * t + 6)) hx hb d_La_law_837 hl rfl (aw_inc (6 * t) 6 6 (by decide +kernel)) (by decide) rfl (fun ls hl => ?_)
          have hl : lv_has ls 8 [(4, .int (nI (6 * t + 6))), (6, .int x226), (5, .int (nI 2)), (0, .ref b), (1, .ref (aw_r ad 0)), (2, .ref (aw_m ad 0)), (3, .ref (aw_o ad))] := hl
          refine lv_goto (tgt := 23) hx hb d_La_law_840 (by decide) ?_
          have hl := lv_sub hl (l' := [(0, .ref b), (1, .ref (aw_r ad 0)), (2, .ref (aw_m ad 0)), (3, .ref (aw_o ad)), (4, .int (nI (6 * t + 6)))]) [3, 4, 5, 6, 0] rfl
          refine W.widen (k := 85 + (t + 1)) (n := 1246 + 6 * (t + 1)) (by omega) (by omega) ?_
          exact ih (t + 1) zG zO zX zY zA zB zM zI zL zK zN (nI 2) zQ _ _ L ls (by omega) hP hD hSh hR hS (by first | exact hl | simpa [Nat.mul_add] using hl)
    · refine aw_ti (y := nI 7) (by rw [hs3]) ?_
      refine lv_tableIn (tgt := 543) (off := 503) hx hb d_La_law_40 (by decide +kernel) (by decide +kernel) (by decide +kernel) (by decide) ?_
      obtain ⟨p0, hp0⟩ : ∃ z : Int32, z = xs (6 * t + 1) := ⟨_, rfl⟩
      obtain ⟨s2, hs2⟩ : ∃ z : Int32, z = xs (6 * t + 2) := ⟨_, rfl⟩
      rcases aw_rng 64 (by decide) p0 with hc | ⟨k, hk, rfl⟩
      · refine lv_aload_n hx hb d_La_law_543 rfl (lv_at hl 1 rfl) ?_
        refine lv_aload_n hx hb d_La_law_544 rfl (lv_at hl 0 rfl) ?_
        refine lv_iload hx hb d_La_law_545 (lv_at hl 4 rfl) ?_
        refine lv_iconst (v := nI 1) hx hb d_La_law_547 (by decide +kernel) ?_
        refine lv_iadd hx hb d_La_law_548 ?_
        refine aw_ti (nI_add (6 * t) 1) ?_
        refine va_sld hx hb hX hbl hbA hS (i := (nI ((6 * t) + 1))) (vp_in_nI (by omega) (by omega)) d_La_law_549 ?_
        refine aw_ti (y := p0) (by rw [nI_clamp (by omega)]; exact hp0.symm) ?_
        refine lv_aload_n hx hb d_La_law_550 rfl (lv_at hl 0 rfl) ?_
        refine lv_iload hx hb d_La_law_551 (lv_at hl 4 rfl) ?_
        refine lv_iconst (v := nI 2) hx hb d_La_law_553 (by decide +kernel) ?_
        refine lv_iadd hx hb d_La_law_554 ?_
        refine aw_ti (nI_add (6 * t) 2) ?_
        refine va_sld hx hb hX hbl hbA hS (i := (nI ((6 * t) + 2))) (vp_in_nI (by omega) (by omega)) d_La_law_555 ?_
        refine aw_ti (y := s2) (by rw [nI_clamp (by omega)]; exact hs2.symm) ?_
        refine va_calli (vx_runSW (As := [.ref (aw_r ad 0), .int p0, .int s2]) (rest := []) ⟨hx, hb, hml, hown, hG⟩ (k_La_putXV l hst D g ad N0 zG zO zX zY zA zB zM zI zL zK zN zF zQ p0 s2 hc) (aw_wW 3 hG gw_7_25 gw_7_23 gw_0_0 gw_7_24 rfl rfl hd_La_put ⟨Nat.le_of_ble_eq_true rfl, Nat.le_of_ble_eq_true rfl⟩) (ag_qS hP hD hSh hU hS) rfl rfl hl.1 rfl (lv_room (Nat.le_of_ble_eq_true rfl)) d_La_law_556 ⟨by omega, by omega⟩) hS (fun _ _ h => h) (fun _ h => h) ?_
        clear hP hD hSh hS
        intro x227 u8 t8 H locs ht _ ex227 hB _ _ hS
        obtain ⟨L, hP, hD, hSh⟩ := hB
        rw [ht] at hP
        clear ht
        subst ex227
        refine lv_istore hx hb d_La_law_559 hl (by decide) rfl (fun ls hl => ?_)
        have hl : lv_has ls 8 [(5, .int (nI 1)), (0, .ref b), (1, .ref (aw_r ad 0)), (2, .ref (aw_m ad 0)), (3, .ref (aw_o ad)), (4, .int (nI (6 * t)))] := hl
        refine lv_aload_n hx hb d_La_law_561 rfl (lv_at hl 3 rfl) ?_
        refine lv_aload_n hx hb d_La_law_562 rfl (lv_at hl 1 rfl) ?_
        refine lv_iload hx hb d_La_law_563 (lv_at hl 5 rfl) ?_
        refine lv_iconst (v := nI 1) hx hb d_La_law_565 (by decide +kernel) ?_
        refine lv_iadd hx hb d_La_law_566 ?_
        refine aw_ti (nI_add (6 * t) 1) ?_
        refine va_sld hx hb hX hbl hbA hS (i := (nI ((6 * t) + 1))) (vp_in_nI (by omega) (by omega)) d_La_law_567 ?_
        refine aw_ti (y := p0) (by rw [nI_clamp (by omega)]; exact hp0.symm) ?_
        refine lv_aload_n hx hb d_La_law_568 rfl (lv_at hl 1 rfl) ?_
        refine lv_iload hx hb d_La_law_569 (lv_at hl 5 rfl) ?_
        refine lv_iconst (v := nI 2) hx hb d_La_law_571 (by decide +kernel) ?_
        refine lv_iadd hx hb d_La_law_572 ?_
        refine aw_ti (nI_add (6 * t) 2) ?_
        refine va_sld hx hb hX hbl hbA hS (i := (nI ((6 * t) + 2))) (vp_in_nI (by omega) (by omega)) d_La_law_573 ?_
        refine aw_ti (y := s2) (by rw [nI_clamp (by omega)]; exact hs2.symm) ?_
        obtain ⟨_, he228⟩ := zr_M0 hSh
        refine va_callv (va_runV (As := [.int p0, .int s2]) (rest := []) ⟨hx, hb, hml, hown, hG⟩ (k_Mo_putXV l D g ad N0 zG zO zX zY zA zB zM zI zL zK zN zF zQ p0 s2 (aw_bnd 63 (by decide) hc)) (aw_wV 2 hG gw_12_18 gw_12_15 gw_0_10 gw_12_16 gw_12_17 rfl rfl hd_Mo_put ⟨Nat.le_of_ble_eq_true rfl, Nat.le_of_ble_eq_true rfl⟩) (ag_qV (va_recv hK hP rfl he228) hP hD hSh hU hS) rfl rfl hl.1 rfl (lv_room (Nat.le_of_ble_eq_true rfl)) d_La_law_574 ⟨by omega, by omega⟩) hS (fun _ _ h => h) (fun _ h => h) ?_
        clear hP hD hSh hS he228
        intro u8 t8 H locs ht _ _ hB _ _ hS
        obtain ⟨L, hP, hD, hSh⟩ := hB
        rw [ht] at hP
        clear ht
        refine lv_goto (tgt := 837) hx hb d_La_law_577 (by decide) ?_
        refine lv_iinc (k := 5) (v := nI (6 * t + 6)) hx hb d_La_law_837 hl rfl (aw_inc (6 * t) 6 6 (by decide +kernel)) (by decide) rfl (fun ls hl => ?_)
        have hl : lv_has ls 8 [(4, .int (nI (6 * t + 6))), (5, .int (nI 1)), (0, .ref b), (1, .ref (aw_r ad 0)), (2, .ref (aw_m ad 0)), (3, .ref (aw_o ad))] := hl
        refine lv_goto (tgt := 23) hx hb d_La_law_840 (by decide) ?_
        have hl := lv_sub hl (l' := [(0, .ref b), (1, .ref (aw_r ad 0)), (2, .ref (aw_m ad 0)), (3, .ref (aw_o ad)), (4, .int (nI (6 * t + 6)))]) [2, 3, 4, 5, 0] rfl
        refine W.widen (k := 85 + (t + 1)) (n := 1246 + 6 * (t + 1)) (by omega) (by omega) ?_
        exact ih (t + 1) zG zO zX zY zA zB zM zI zL zK zN (nI 1) zQ _ _ L ls (by omega) hP hD hSh hR hS (by first | exact hl | simpa [Nat.mul_add] using hl)
      · refine lv_aload_n hx hb d_La_law_543 rfl (lv_at hl 1 rfl) ?_
        refine lv_aload_n hx hb d_La_law_544 rfl (lv_at hl 0 rfl) ?_
        refine lv_iload hx hb d_La_law_545 (lv_at hl 4 rfl) ?_
        refine lv_iconst (v := nI 1) hx hb d_La_law_547 (by decide +kernel) ?_
        refine lv_iadd hx hb d_La_law_548 ?_
        refine aw_ti (nI_add (6 * t) 1) ?_
        refine va_sld hx hb hX hbl hbA hS (i := (nI ((6 * t) + 1))) (vp_in_nI (by omega) (by omega)) d_La_law_549 ?_
        refine aw_ti (y := nI k) (by rw [nI_clamp (by omega)]; exact hp0.symm) ?_
        refine lv_aload_n hx hb d_La_law_550 rfl (lv_at hl 0 rfl) ?_
        refine lv_iload hx hb d_La_law_551 (lv_at hl 4 rfl) ?_
        refine lv_iconst (v := nI 2) hx hb d_La_law_553 (by decide +kernel) ?_
        refine lv_iadd hx hb d_La_law_554 ?_
        refine aw_ti (nI_add (6 * t) 2) ?_
        refine va_sld hx hb hX hbl hbA hS (i := (nI ((6 * t) + 2))) (vp_in_nI (by omega) (by omega)) d_La_law_555 ?_
        refine aw_ti (y := s2) (by rw [nI_clamp (by omega)]; exact hs2.symm) ?_
        refine va_calli (vx_runSW (As := [.ref (aw_r ad 0), .int (nI k), .int s2]) (rest := []) ⟨hx, hb, hml, hown, hG⟩ (k_La_put1V l hst D g ad N0 zG zO zX zY zA zB zM zI zL zK zN zF zQ k s2 (by omega)) (aw_wW 3 hG gw_7_25 gw_7_23 gw_0_0 gw_7_24 rfl rfl hd_La_put ⟨Nat.le_of_ble_eq_true rfl, Nat.le_of_ble_eq_true rfl⟩) (ag_qS hP hD hSh hU hS) rfl rfl hl.1 rfl (lv_room (Nat.le_of_ble_eq_true rfl)) d_La_law_556 ⟨by omega, by omega⟩) hS (fun _ _ h => h) (fun _ h => h) ?_
        clear hP hD hSh hS
        intro x229 u8 t8 H locs ht _ ex229 hB _ _ hS
        obtain ⟨L, hP, hD, hSh⟩ := hB
        rw [ht] at hP
        clear ht
        subst ex229
        obtain ⟨zB230, ezB230⟩ : ∃ z : Nat → Int32, v_La_put1V_zB zB k s2 = z := ⟨_, rfl⟩
        rw [ezB230] at hSh
        refine lv_istore hx hb d_La_law_559 hl (by decide) rfl (fun ls hl => ?_)
        have hl : lv_has ls 8 [(5, .int (nI 0)), (0, .ref b), (1, .ref (aw_r ad 0)), (2, .ref (aw_m ad 0)), (3, .ref (aw_o ad)), (4, .int (nI (6 * t)))] := hl
        refine lv_aload_n hx hb d_La_law_561 rfl (lv_at hl 3 rfl) ?_
        refine lv_aload_n hx hb d_La_law_562 rfl (lv_at hl 1 rfl) ?_
        refine lv_iload hx hb d_La_law_563 (lv_at hl 5 rfl) ?_
        refine lv_iconst (v := nI 1) hx hb d_La_law_565 (by decide +kernel) ?_
        refine lv_iadd hx hb d_La_law_566 ?_
        refine aw_ti (nI_add (6 * t) 1) ?_
        refine va_sld hx hb hX hbl hbA hS (i := (nI ((6 * t) + 1))) (vp_in_nI (by omega) (by omega)) d_La_law_567 ?_
        refine aw_ti (y := nI k) (by rw [nI_clamp (by omega)]; exact hp0.symm) ?_
        refine lv_aload_n hx hb d_La_law_568 rfl (lv_at hl 1 rfl) ?_
        refine lv_iload hx hb d_La_law_569 (lv_at hl 5 rfl) ?_
        refine lv_iconst (v := nI 2) hx hb d_La_law_571 (by decide +kernel) ?_
        refine lv_iadd hx hb d_La_law_572 ?_
        refine aw_ti (nI_add (6 * t) 2) ?_
        refine va_sld hx hb hX hbl hbA hS (i := (nI ((6 * t) + 2))) (vp_in_nI (by omega) (by omega)) d_La_law_573 ?_
        refine aw_ti (y := s2) (by rw [nI_clamp (by omega)]; exact hs2.symm) ?_
        obtain ⟨_, he231⟩ := zr_M0 hSh
        refine va_callv (va_runV (As := [.int (nI k), .int s2]) (rest := []) ⟨hx, hb, hml, hown, hG⟩ (k_Mo_put1V l D g ad N0 zG zO zX zY zA zB230 zM zI zL zK zN zF zQ k s2 (by omega)) (aw_wV 2 hG gw_12_18 gw_12_15 gw_0_10 gw_12_16 gw_12_17 rfl rfl hd_Mo_put ⟨Nat.le_of_ble_eq_true rfl, Nat.le_of_ble_eq_true rfl⟩) (ag_qV (va_recv hK hP rfl he231) hP hD hSh hU hS) rfl rfl hl.1 rfl (lv_room (Nat.le_of_ble_eq_true rfl)) d_La_law_574 ⟨by omega, by omega⟩) hS (fun _ _ h => h) (fun _ h => h) ?_
        clear hP hD hSh hS he231
        intro u8 t8 H locs ht _ _ hB _ _ hS
        obtain ⟨L, hP, hD, hSh⟩ := hB
        rw [ht] at hP
        clear ht
        obtain ⟨zI232, ezI232⟩ : ∃ z : Nat → Nat → Int32, v_Mo_put1V_zI zI k s2 = z := ⟨_, rfl⟩
        rw [ezI232] at hSh
        refine lv_goto (tgt := 837) hx hb d_La_law_577 (by decide) ?_
        refine lv_iinc (k := 5) (v := nI (6 * t + 6)) hx hb d_La_law_837 hl rfl (aw_inc (6 * t) 6 6 (by decide +kernel)) (by decide) rfl (fun ls hl => ?_)
        have hl : lv_has ls 8 [(4, .int (nI (6 * t + 6))), (5, .int (nI 0)), (0, .ref b), (1, .ref (aw_r ad 0)), (2, .ref (aw_m ad 0)), (3, .ref (aw_o ad))] := hl
        refine lv_goto (tgt := 23) hx hb d_La_law_840 (by decide) ?_
        have hl := lv_sub hl (l' := [(0, .ref b), (1, .ref (aw_r ad 0)), (2, .ref (aw_m ad 0)), (3, .ref (aw_o ad)), (4, .int (nI (6 * t + 6)))]) [2, 3, 4, 5, 0] rfl
        refine W.widen (k := 85 + (t + 1)) (n := 1246 + 6 * (t + 1)) (by omega) (by omega) ?_
        have hR : az_R zG zO zX zY zA zB230 zM zI232 zL := by
          subst ezI232 ezB230
          exact r_put1 hR hk
        exact ih (t + 1) zG zO zX zY zA zB230 zM zI232 zL zK zN (nI 0) zQ _ _ L ls (by omega) hP hD hSh hR hS (by first | exact hl | simpa [Nat.mul_add] using hl)
    · refine aw_ti (y := nI 8) (by rw [hs3]) ?_
      refine lv_tableIn (tgt := 580) (off := 540) hx hb d_La_law_40 (by decide +kernel) (by decide +kernel) (by decide +kernel) (by decide) ?_
      obtain ⟨p0, hp0⟩ : ∃ z : Int32, z = xs (6 * t + 1) := ⟨_, rfl⟩
      rcases aw_rng 64 (by decide) p0 with hc | ⟨k, hk, rfl⟩
      · refine lv_aload_n hx hb d_La_law_580 rfl (lv_at hl 1 rfl) ?_
        refine lv_aload_n hx hb d_La_law_581 rfl (lv_at hl 0 rfl) ?_
        refine lv_iload hx hb d_La_law_582 (lv_at hl 4 rfl) ?_
        refine lv_iconst (v := nI 1) hx hb d_La_law_584 (by decide +kernel) ?_
        refine lv_iadd hx hb d_La_law_585 ?_
        refine aw_ti (nI_add (6 * t) 1) ?_
        refine va_sld hx hb hX hbl hbA hS (i := (nI ((6 * t) + 1))) (vp_in_nI (by omega) (by omega)) d_La_law_586 ?_
        refine aw_ti (y := p0) (by rw [nI_clamp (by omega)]; exact hp0.symm) ?_
        refine lv_aload_n hx hb d_La_law_587 rfl (lv_at hl 3 rfl) ?_
        refine va_calli (vx_runSW (As := [.ref (aw_r ad 0), .int p0, .ref (aw_o ad)]) (rest := []) ⟨hx, hb, hml, hown, hG⟩ (k_La_getXV l hst D g ad N0 zG zO zX zY zA zB zM zI zL zK zN zF zQ p0 hc) (aw_wW 3 hG gw_7_35 gw_7_33 gw_0_0 gw_7_34 rfl rfl hd_La_get ⟨Nat.le_of_ble_eq_true rfl, Nat.le_of_ble_eq_true rfl⟩) (ag_qS hP hD hSh hU hS) rfl rfl hl.1 rfl (lv_room (Nat.le_of_ble_eq_true rfl)) d_La_law_588 ⟨by omega, by omega⟩) hS (fun _ _ h => h) (fun _ h => h) ?_
        clear hP hD hSh hS
        intro x233 u8 t8 H locs ht _ ex233 hB _ _ hS
        obtain ⟨L, hP, hD, hSh⟩ := hB
        rw [ht] at hP
        clear ht
        subst ex233
        refine lv_istore hx hb d_La_law_591 hl (by decide) rfl (fun ls hl => ?_)
        have hl : lv_has ls 8 [(5, .int (nI 1)), (0, .ref b), (1, .ref (aw_r ad 0)), (2, .ref (aw_m ad 0)), (3, .ref (aw_o ad)), (4, .int (nI (6 * t)))] := hl
        refine lv_aload_n hx hb d_La_law_593 rfl (lv_at hl 3 rfl) ?_
        refine lv_aload_n hx hb d_La_law_594 rfl (lv_at hl 1 rfl) ?_
        refine lv_iload hx hb d_La_law_595 (lv_at hl 5 rfl) ?_
        refine lv_iconst (v := nI 1) hx hb d_La_law_597 (by decide +kernel) ?_
        refine lv_iadd hx hb d_La_law_598 ?_
        refine aw_ti (nI_add (6 * t) 1) ?_
        refine va_sld hx hb hX hbl hbA hS (i := (nI ((6 * t) + 1))) (vp_in_nI (by omega) (by omega)) d_La_law_599 ?_
        refine aw_ti (y := p0) (by rw [nI_clamp (by omega)]; exact hp0.symm) ?_
        obtain ⟨_, he234⟩ := zr_M0 hSh
        refine va_calli (va_runV (As := [.int p0]) (rest := []) ⟨hx, hb, hml, hown, hG⟩ (k_Mo_getXV l D g ad N0 zG zO zX zY zA zB zM zI zL zK zN zF zQ p0 (aw_bnd 63 (by decide) hc)) (aw_wV 1 hG gw_12_22 gw_12_19 gw_0_10 gw_12_20 gw_12_21 rfl rfl hd_Mo_get ⟨Nat.le_of_ble_eq_true rfl, Nat.le_of_ble_eq_true rfl⟩) (ag_qV (va_recv hK hP rfl he234) hP hD hSh hU hS) rfl rfl hl.1 rfl (lv_room (Nat.le_of_ble_eq_true rfl)) d_La_law_600 ⟨by omega, by omega⟩) hS (fun _ _ h => h) (fun _ h => h) ?_
        clear hP hD hSh hS he234
        intro x235 u8 t8 H locs ht _ ex235 hB _ _ hS
        obtain ⟨L, hP, hD, hSh⟩ := hB
        rw [ht] at hP
        clear ht
        have ex235 := ex235.symm
        refine lv_istore hx hb d_La_law_603 hl (by decide) rfl (fun ls hl => ?_)
        have hl : lv_has ls 8 [(6, .int x235), (5, .int (nI 1)), (0, .ref b), (1, .ref (aw_r ad 0)), (2, .ref (aw_m ad 0)), (3, .ref (aw_o ad)), (4, .int (nI (6 * t)))] := hl
        refine lv_goto (tgt := 837) hx hb d_La_law_605 (by decide) ?_
        refine lv_iinc (k := 6) (v := nI (6 * t + 6)) hx hb d_La_law_837 hl rfl (aw_inc (6 * t) 6 6 (by decide +kernel)) (by decide) rfl (fun ls hl => ?_)
        have hl : lv_has ls 8 [(4, .int (nI (6 * t + 6))), (6, .int x235), (5, .int (nI 1)), (0, .ref b), (1, .ref (aw_r ad 0)), (2, .ref (aw_m ad 0)), (3, .ref (aw_o ad))] := hl
        refine lv_goto (tgt := 23) hx hb d_La_law_840 (by decide) ?_
        have hl := lv_sub hl (l' := [(0, .ref b), (1, .ref (aw_r ad 0)), (2, .ref (aw_m ad 0)), (3, .ref (aw_o ad)), (4, .int (nI (6 * t + 6)))]) [3, 4, 5, 6, 0] rfl
        refine W.widen (k := 85 + (t + 1)) (n := 1246 + 6 * (t + 1)) (by omega) (by omega) ?_
        exact ih (t + 1) zG zO zX zY zA zB zM zI zL zK zN (nI 1) zQ _ _ L ls (by omega) hP hD hSh hR hS (by first | exact hl | simpa [Nat.mul_add] using hl)
      · refine lv_aload_n hx hb d_La_law_580 rfl (lv_at hl 1 rfl) ?_
        refine lv_aload_n hx hb d_La_law_581 rfl (lv_at hl 0 rfl) ?_
        refine lv_iload hx hb d_La_law_582 (lv_at hl 4 rfl) ?_
        refine lv_iconst (v := nI 1) hx hb d_La_law_584 (by decide +kernel) ?_
        refine lv_iadd hx hb d_La_law_585 ?_
        refine aw_ti (nI_add (6 * t) 1) ?_
        refine va_sld hx hb hX hbl hbA hS (i := (nI ((6 * t) + 1))) (vp_in_nI (by omega) (by omega)) d_La_law_586 ?_
        refine aw_ti (y := nI k) (by rw [nI_clamp (by omega)]; exact hp0.symm) ?_
        refine lv_aload_n hx hb d_La_law_587 rfl (lv_at hl 3 rfl) ?_
        refine va_calli (vx_runSW (As := [.ref (aw_r ad 0), .int (nI k), .ref (aw_o ad)]) (rest := []) ⟨hx, hb, hml, hown, hG⟩ (k_La_get1V l hst D g ad N0 zG zO zX zY zA zB zM zI zL zK zN zF zQ k (by omega)) (aw_wW 3 hG gw_7_35 gw_7_33 gw_0_0 gw_7_34 rfl rfl hd_La_get ⟨Nat.le_of_ble_eq_true rfl, Nat.le_of_ble_eq_true rfl⟩) (ag_qS hP hD hSh hU hS) rfl rfl hl.1 rfl (lv_room (Nat.le_of_ble_eq_true rfl)) d_La_law_588 ⟨by omega, by omega⟩) hS (fun _ _ h => h) (fun _ h => h) ?_
        clear hP hD hSh hS
        intro x236 u8 t8 H locs ht _ ex236 hB _ _ hS
        obtain ⟨L, hP, hD, hSh⟩ := hB
        rw [ht] at hP
        clear ht
        subst ex236
        obtain ⟨zQ237, ezQ237⟩ : ∃ z : Int64, v_La_get1V_zQ zB k = z := ⟨_, rfl⟩
        rw [ezQ237] at hSh
        refine lv_istore hx hb d_La_law_591 hl (by decide) rfl (fun ls hl => ?_)
        have hl : lv_has ls 8 [(5, .int (nI 0)), (0, .ref b), (1, .ref (aw_r ad 0)), (2, .ref (aw_m ad 0)), (3, .ref (aw_o ad)), (4, .int (nI (6 * t)))] := hl
        refine lv_aload_n hx hb d_La_law_593 rfl (lv_at hl 3 rfl) ?_
        refine lv_aload_n hx hb d_La_law_594 rfl (lv_at hl 1 rfl) ?_
        refine lv_iload hx hb d_La_law_595 (lv_at hl 5 rfl) ?_
        refine lv_iconst (v := nI 1) hx hb d_La_law_597 (by decide +kernel) ?_
        refine lv_iadd hx hb d_La_law_598 ?_
        refine aw_ti (nI_add (6 * t) 1) ?_
        refine va_sld hx hb hX hbl hbA hS (i := (nI ((6 * t) + 1))) (vp_in_nI (by omega) (by omega)) d_La_law_599 ?_
        refine aw_ti (y := nI k) (by rw [nI_clamp (by omega)]; exact hp0.symm) ?_
        obtain ⟨_, he238⟩ := zr_M0 hSh
        refine va_calli (va_runV (As := [.int (nI k)]) (rest := []) ⟨hx, hb, hml, hown, hG⟩ (k_Mo_get1V l D g ad N0 zG zO zX zY zA zB zM zI zL zK zN zF zQ237 k (by omega)) (aw_wV 1 hG gw_12_22 gw_12_19 gw_0_10 gw_12_20 gw_12_21 rfl rfl hd_Mo_get ⟨Nat.le_of_ble_eq_true rfl, Nat.le_of_ble_eq_true rfl⟩) (ag_qV (va_recv hK hP rfl he238) hP hD hSh hU hS) rfl rfl hl.1 rfl (lv_room (Nat.le_of_ble_eq_true rfl)) d_La_law_600 ⟨by omega, by omega⟩) hS (fun _ _ h => h) (fun _ h => h) ?_
        clear hP hD hSh hS he238
        intro x239 u8 t8 H locs ht _ ex239 hB _ _ hS
        obtain ⟨L, hP, hD, hSh⟩ := hB
        rw [ht] at hP
        clear ht
        have ex239 := ex239.symm
        refine lv_istore hx hb d_La_law_603 hl (by decide) rfl (fun ls hl => ?_)
        have hl : lv_has ls 8 [(6, .int x239), (5, .int (nI 0)), (0, .ref b), (1, .ref (aw_r ad 0)), (2, .ref (aw_m ad 0)), (3, .ref (aw_o ad)), (4, .int (nI (6 * t)))] := hl
        refine lv_goto (tgt := 837) hx hb d_La_law_605 (by decide) ?_
        refine lv_iinc (k := 6) (v := nI (6 * t + 6)) hx hb d_La_law_837 hl rfl (aw_inc (6 * t) 6 6 (by decide +kernel)) (by decide) rfl (fun ls hl => ?_)
        have hl : lv_has ls 8 [(4, .int (nI (6 * t + 6))), (6, .int x239), (5, .int (nI 0)), (0, .ref b), (1, .ref (aw_r ad 0)), (2, .ref (aw_m ad 0)), (3, .ref (aw_o ad))] := hl
        refine lv_goto (tgt := 23) hx hb d_La_law_840 (by decide) ?_
        have hl := lv_sub hl (l' := [(0, .ref b), (1, .ref (aw_r ad 0)), (2, .ref (aw_m ad 0)), (3, .ref (aw_o ad)), (4, .int (nI (6 * t + 6)))]) [3, 4, 5, 6, 0] rfl
        refine W.widen (k := 85 + (t + 1)) (n := 1246 + 6 * (t + 1)) (by omega) (by omega) ?_
        exact ih (t + 1) zG zO zX zY zA zB zM zI zL zK zN (nI 0) zQ237 _ _ L ls (by omega) hP hD hSh hR hS (by first | exact hl | simpa [Nat.mul_add] using hl)
    · refine aw_ti (y := nI 9) (by rw [hs3]) ?_
      refine lv_tableIn (tgt := 608) (off := 568) hx hb d_La_law_40 (by decide +kernel) (by decide +kernel) (by decide +kernel) (by decide) ?_
      obtain ⟨c0, hc0⟩ : ∃ z : Int32, z = xs (6 * t + 1) := ⟨_, rfl⟩
      obtain ⟨s2, hs2⟩ : ∃ z : Int32, z = xs (6 * t + 2) := ⟨_, rfl⟩
      obtain ⟨fr, hfr⟩ : ∃ z : Int32, z = xs (6 * t + 3) := ⟨_, rfl⟩
      obtain ⟨m0, hm0⟩ : ∃ z : Int32, z = xs (6 * t + 4) := ⟨_, rfl⟩
      rcases aw_rng 4 (by decide) c0 with hc | ⟨j, hj, rfl⟩
      · refine lv_aload_n hx hb d_La_law_608 rfl (lv_at hl 1 rfl) ?_
        refine lv_aload_n hx hb d_La_law_609 rfl (lv_at hl 0 rfl) ?_
        refine lv_iload hx hb d_La_law_610 (lv_at hl 4 rfl) ?_
        refine lv_iconst (v := nI 1) hx hb d_La_law_612 (by decide +kernel) ?_
        refine lv_iadd hx hb d_La_law_613 ?_
        refine aw_ti (nI_add (6 * t) 1) ?_
        refine va_sld hx hb hX hbl hbA hS (i := (nI ((6 * t) + 1))) (vp_in_nI (by omega) (by omega)) d_La_law_614 ?_
        refine aw_ti (y := c0) (by rw [nI_clamp (by omega)]; exact hc0.symm) ?_
        refine lv_aload_n hx hb d_La_law_615 rfl (lv_at hl 0 rfl) ?_
        refine lv_iload hx hb d_La_law_616 (lv_at hl 4 rfl) ?_
        refine lv_iconst (v := nI 2) hx hb d_La_law_618 (by decide +kernel) ?_
        refine lv_iadd hx hb d_La_law_619 ?_
        refine aw_ti (nI_add (6 * t) 2) ?_
        refine va_sld hx hb hX hbl hbA hS (i := (nI ((6 * t) + 2))) (vp_in_nI (by omega) (by omega)) d_La_law_620 ?_
        refine aw_ti (y := s2) (by rw [nI_clamp (by omega)]; exact hs2.symm) ?_
        have hj240 : ∀ x241 : Int32, (if s2 = 0 then nI 0 else nI 1) = x241 → W p l e room_1 s m #[Value.ref b] below meth c H locs (85 + t) (1246 + 6 * t) (lw_Z below #[Value.ref b] s) (F0 m 629 ls [.int x241, .int c0, .ref (aw_r ad 0)]) := by
          intro x241 ebx241
          refine lv_aload_n hx hb d_La_law_629 rfl (lv_at hl 0 rfl) ?_
          refine lv_iload hx hb d_La_law_630 (lv_at hl 4 rfl) ?_
          refine lv_iconst (v := nI 3) hx hb d_La_law_632 (by decide +kernel) ?_
          refine lv_iadd hx hb d_La_law_633 ?_
          refine aw_ti (nI_add (6 * t) 3) ?_
          refine va_sld hx hb hX hbl hbA hS (i := (nI ((6 * t) + 3))) (vp_in_nI (by omega) (by omega)) d_La_law_634 ?_
          refine aw_ti (y := fr) (by rw [nI_clamp (by omega)]; exact hfr.symm) ?_
          refine lv_aload_n hx hb d_La_law_635 rfl (lv_at hl 0 rfl) ?_
          refine lv_iload hx hb d_La_law_636 (lv_at hl 4 rfl) ?_
          refine lv_iconst (v := nI 4) hx hb d_La_law_638 (by decide +kernel) ?_
          refine lv_iadd hx hb d_La_law_639 ?_
          refine aw_ti (nI_add (6 * t) 4) ?_
          refine va_sld hx hb hX hbl hbA hS (i := (nI ((6 * t) + 4))) (vp_in_nI (by omega) (by omega)) d_La_law_640 ?_
          refine aw_ti (y := m0) (by rw [nI_clamp (by omega)]; exact hm0.symm) ?_
          refine lv_aload_n hx hb d_La_law_641 rfl (lv_at hl 3 rfl) ?_
          refine va_calli (vx_runSW (As := [.ref (aw_r ad 0), .int c0, .int x241, .int fr, .int m0, .ref (aw_o ad)]) (rest := []) ⟨hx, hb, hml, hown, hG⟩ (k_La_feedXcV l hst D g ad N0 zG zO zX zY zA zB zM zI zL zK zN zF zQ c0 x241 fr m0 hc) (aw_wW 6 hG gw_7_42 gw_7_40 gw_0_0 gw_7_41 rfl rfl hd_La_feed ⟨Nat.le_of_ble_eq_true rfl, Nat.le_of_ble_eq_true rfl⟩) (ag_qS hP hD hSh hU hS) rfl rfl hl.1 rfl (lv_room (Nat.le_of_ble_eq_true rfl)) d_La_law_642 ⟨by omega, by omega⟩) hS (fun _ _ h => h) (fun _ h => h) ?_
          clear hP hD hSh hS
          intro x242 u8 t8 H locs ht _ ex242 hB _ _ hS
          obtain ⟨L, hP, hD, hSh⟩ := hB
          rw [ht] at hP
          clear ht
          subst ex242
          refine lv_istore hx hb d_La_law_645 hl (by decide) rfl (fun ls hl => ?_)
          have hl : lv_has ls 8 [(5, .int (nI 1)), (0, .ref b), (1, .ref (aw_r ad 0)), (2, .ref (aw_m ad 0)), (3, .ref (aw_o ad)), (4, .int (nI (6 * t)))] := hl
          refine lv_aload_n hx hb d_La_law_647 rfl (lv_at hl 3 rfl) ?_
          refine lv_aload_n hx hb d_La_law_648 rfl (lv_at hl 1 rfl) ?_
          refine lv_iload hx hb d_La_law_649 (lv_at hl 5 rfl) ?_
          refine lv_iconst (v := nI 1) hx hb d_La_law_651 (by decide +kernel) ?_
          refine lv_iadd hx hb d_La_law_652 ?_
          refine aw_ti (nI_add (6 * t) 1) ?_
          refine va_sld hx hb hX hbl hbA hS (i := (nI ((6 * t) + 1))) (vp_in_nI (by omega) (by omega)) d_La_law_653 ?_
          refine aw_ti (y := c0) (by rw [nI_clamp (by omega)]; exact hc0.symm) ?_
          refine lv_aload_n hx hb d_La_law_654 rfl (lv_at hl 1 rfl) ?_
          refine lv_iload hx hb d_La_law_655 (lv_at hl 5 rfl) ?_
          refine lv_iconst (v := nI 2) hx hb d_La_law_657 (by decide +kernel) ?_
          refine lv_iadd hx hb d_La_law_658 ?_
          refine aw_ti (nI_add (6 * t) 2) ?_
          refine va_sld hx hb hX hbl hbA hS (i := (nI ((6 * t) + 2))) (vp_in_nI (by omega) (by omega)) d_La_law_659 ?_
          refine aw_ti (y := s2) (by rw [nI_clamp (by omega)]; exact hs2.symm) ?_
          have hj243 : ∀ x244 : Int32, (if s2 = 0 then nI 0 else nI 1) = x244 → W p l e room_1 s m #[Value.ref b] below meth c H locs ((85 + t) + 1) ((1246 + 6 * t) + 6) (lw_Z below #[Value.ref b] s) (F0 m 668 ls [.int x244, .int c0, .ref (aw_m ad 0)]) := by
            intro x244 ebx244
            refine lv_aload_n hx hb d_La_law_668 rfl (lv_at hl 1 rfl) ?_
            refine lv_iload hx hb d_La_law_669 (lv_at hl 5 rfl) ?_
            refine lv_iconst (v := nI 3) hx hb d_La_law_671 (by decide +kernel) ?_
            refine lv_iadd hx hb d_La_law_672 ?_
            refine aw_ti (nI_add (6 * t) 3) ?_
            refine va_sld hx hb hX hbl hbA hS (i := (nI ((6 * t) + 3))) (vp_in_nI (by omega) (by omega)) d_La_law_673 ?_
            refine aw_ti (y := fr) (by rw [nI_clamp (by omega)]; exact hfr.symm) ?_
            refine lv_aload_n hx hb d_La_law_674 rfl (lv_at hl 1 rfl) ?_
            refine lv_iload hx hb d_La_law_675 (lv_at hl 5 rfl) ?_
            refine lv_iconst (v := nI 4) hx hb d_La_law_677 (by decide +kernel) ?_
            refine lv_iadd hx hb d_La_law_678 ?_
            refine aw_ti (nI_add (6 * t) 4) ?_
            refine va_sld hx hb hX hbl hbA hS (i := (nI ((6 * t) + 4))) (vp_in_nI (by omega) (by omega)) d_La_law_679 ?_
            refine aw_ti (y := m0) (by rw [nI_clamp (by omega)]; exact hm0.symm) ?_
            obtain ⟨_, he245⟩ := zr_M0 hSh
            refine va_calli (va_runV (As := [.int c0, .int x244, .int fr, .int m0]) (rest := []) ⟨hx, hb, hml, hown, hG⟩ (k_Mo_feedXcV l D g ad N0 zG zO zX zY zA zB zM zI zL zK zN zF zQ c0 x244 fr m0 hc) (aw_wV 4 hG gw_12_26 gw_12_23 gw_0_10 gw_12_24 gw_12_25 rfl rfl hd_Mo_feed ⟨Nat.le_of_ble_eq_true rfl, Nat.le_of_ble_eq_true rfl⟩) (ag_qV (va_recv hK hP rfl he245) hP hD hSh hU hS) rfl rfl hl.1 rfl (lv_room (Nat.le_of_ble_eq_true rfl)) d_La_law_680 ⟨by omega, by omega⟩) hS (fun _ _ h => h) (fun _ h => h) ?_
            clear hP hD hSh hS he245
            intro x246 u8 t8 H locs ht _ ex246 hB _ _ hS
            obtain ⟨L, hP, hD, hSh⟩ := hB
            rw [ht] at hP
            clear ht
            have ex246 := ex246.symm
            refine lv_istore hx hb d_La_law_683 hl (by decide) rfl (fun ls hl => ?_)
            have hl : lv_has ls 8 [(6, .int x246), (5, .int (nI 1)), (0, .ref b), (1, .ref (aw_r ad 0)), (2, .ref (aw_m ad 0)), (3, .ref (aw_o ad)), (4, .int (nI (6 * t)))] := hl
            refine lv_goto (tgt := 837) hx hb d_La_law_685 (by decide) ?_
            refine lv_iinc (k := 6) (v := nI (6 * t + 6)) hx hb d_La_law_837 hl rfl (aw_inc (6 * t) 6 6 (by decide +kernel)) (by decide) rfl (fun ls hl => ?_)
            have hl : lv_has ls 8 [(4, .int (nI (6 * t + 6))), (6, .int x246), (5, .int (nI 1)), (0, .ref b), (1, .ref (aw_r ad 0)), (2, .ref (aw_m ad 0)), (3, .ref (aw_o ad))] := hl
            refine lv_goto (tgt := 23) hx hb d_La_law_840 (by decide) ?_
            have hl := lv_sub hl (l' := [(0, .ref b), (1, .ref (aw_r ad 0)), (2, .ref (aw_m ad 0)), (3, .ref (aw_o ad)), (4, .int (nI (6 * t + 6)))]) [3, 4, 5, 6, 0] rfl
            refine W.widen (k := 85 + (t + 1)) (n := 1246 + 6 * (t + 1)) (by omega) (by omega) ?_
            exact ih (t + 1) zG zO zX zY zA zB zM zI zL zK zN (nI 1) zQ _ _ L ls (by omega) hP hD hSh hR hS (by first | exact hl | simpa [Nat.mul_add] using hl)
          refine lv_if_eq (tgt := 667) hx hb d_La_law_660 (by decide) (fun h9 => ?_) (fun h9 => ?_)
          · refine lv_iconst (v := nI 0) hx hb d_La_law_667 (by decide +kernel) ?_
            exact hj243 _ (if_pos h9)
          · refine lv_iconst (v := nI 1) hx hb d_La_law_663 (by decide +kernel) ?_
            refine lv_goto (tgt := 668) hx hb d_La_law_664 (by decide) ?_
            exact hj243 _ (if_neg h9)
        refine lv_if_eq (tgt := 628) hx hb d_La_law_621 (by decide) (fun h9 => ?_) (fun h9 => ?_)
        · refine lv_iconst (v := nI 0) hx hb d_La_law_628 (by decide +kernel) ?_
          exact hj240 _ (if_pos h9)
        · refine lv_iconst (v := nI 1) hx hb d_La_law_624 (by decide +kernel) ?_
          refine lv_goto (tgt := 629) hx hb d_La_law_625 (by decide) ?_
          exact hj240 _ (if_neg h9)
      · have hgj := hSh.2.2.2.2.1 j hj
        have hq1 : (zM j).1 = (zG j).1 := by rw [hR.1 j hj]
        have hq2 : (zM j).2 = (zG j).2 := by rw [hR.1 j hj]
        rcases aw_buf fr m0 with hi | rfl | ⟨k, mm, rfl, rfl, h0, hk⟩
        · have hi2 := aw_bp hi
          refine lv_aload_n hx hb d_La_law_608 rfl (lv_at hl 1 rfl) ?_
          refine lv_aload_n hx hb d_La_law_609 rfl (lv_at hl 0 rfl) ?_
          refine lv_iload hx hb d_La_law_610 (lv_at hl 4 rfl) ?_
          refine lv_iconst (v := nI 1) hx hb d_La_law_612 (by decide +kernel) ?_
          refine lv_iadd hx hb d_La_law_613 ?_
          refine aw_ti (nI_add (6 * t) 1) ?_
          refine va_sld hx hb hX hbl hbA hS (i := (nI ((6 * t) + 1))) (vp_in_nI (by omega) (by omega)) d_La_law_614 ?_
          refine aw_ti (y := nI j) (by rw [nI_clamp (by omega)]; exact hc0.symm) ?_
          refine lv_aload_n hx hb d_La_law_615 rfl (lv_at hl 0 rfl) ?_
          refine lv_iload hx hb d_La_law_616 (lv_at hl 4 rfl) ?_
          refine lv_iconst (v := nI 2) hx hb d_La_law_618 (by decide +kernel) ?_
          refine lv_iadd hx hb d_La_law_619 ?_
          refine aw_ti (nI_add (6 * t) 2) ?_
          refine va_sld hx hb hX hbl hbA hS (i := (nI ((6 * t) + 2))) (vp_in_nI (by omega) (by omega)) d_La_law_620 ?_
          refine aw_ti (y := s2) (by rw [nI_clamp (by omega)]; exact hs2.symm) ?_
          have hj247 : ∀ x248 : Int32, (if s2 = 0 then nI 0 else nI 1) = x248 → W p l e room_1 s m #[Value.ref b] below meth c H locs (85 + t) (1246 + 6 * t) (lw_Z below #[Value.ref b] s) (F0 m 629 ls [.int x248, .int (nI j), .ref (aw_r ad 0)]) := by
            intro x248 ebx248
            refine lv_aload_n hx hb d_La_law_629 rfl (lv_at hl 0 rfl) ?_
            refine lv_iload hx hb d_La_law_630 (lv_at hl 4 rfl) ?_
            refine lv_iconst (v := nI 3) hx hb d_La_law_632 (by decide +kernel) ?_
            refine lv_iadd hx hb d_La_law_633 ?_
            refine aw_ti (nI_add (6 * t) 3) ?_
            refine va_sld hx hb hX hbl hbA hS (i := (nI ((6 * t) + 3))) (vp_in_nI (by omega) (by omega)) d_La_law_634 ?_
            refine aw_ti (y := fr) (by rw [nI_clamp (by omega)]; exact hfr.symm) ?_
            refine lv_aload_n hx hb d_La_law_635 rfl (lv_at hl 0 rfl) ?_
            refine lv_iload hx hb d_La_law_636 (lv_at hl 4 rfl) ?_
            refine lv_iconst (v := nI 4) hx hb d_La_law_638 (by decide +kernel) ?_
            refine lv_iadd hx hb d_La_law_639 ?_
            refine aw_ti (nI_add (6 * t) 4) ?_
            refine va_sld hx hb hX hbl hbA hS (i := (nI ((6 * t) + 4))) (vp_in_nI (by omega) (by omega)) d_La_law_640 ?_
            refine aw_ti (y := m0) (by rw [nI_clamp (by omega)]; exact hm0.symm) ?_
            refine lv_aload_n hx hb d_La_law_641 rfl (lv_at hl 3 rfl) ?_
            refine va_calli (vx_runSW (As := [.ref (aw_r ad 0), .int (nI j), .int x248, .int fr, .int m0, .ref (aw_o ad)]) (rest := []) ⟨hx, hb, hml, hown, hG⟩ (k_La_feedXbV l hst D g ad N0 zG zO zX zY zA zB zM zI zL zK zN zF zQ j x248 fr m0 hj hi) (aw_wW 6 hG gw_7_42 gw_7_40 gw_0_0 gw_7_41 rfl rfl hd_La_feed ⟨Nat.le_of_ble_eq_true rfl, Nat.le_of_ble_eq_true rfl⟩) (ag_qS hP hD hSh hU hS) rfl rfl hl.1 rfl (lv_room (Nat.le_of_ble_eq_true rfl)) d_La_law_642 ⟨by omega, by omega⟩) hS (fun _ _ h => h) (fun _ h => h) ?_
            clear hP hD hSh hS
            intro x249 u8 t8 H locs ht _ ex249 hB _ _ hS
            obtain ⟨L, hP, hD, hSh⟩ := hB
            rw [ht] at hP
            clear ht
            subst ex249
            refine lv_istore hx hb d_La_law_645 hl (by decide) rfl (fun ls hl => ?_)
            have hl : lv_has ls 8 [(5, .int (nI 1)), (0, .ref b), (1, .ref (aw_r ad 0)), (2, .ref (aw_m ad 0)), (3, .ref (aw_o ad)), (4, .int (nI (6 * t)))] := hl
            refine lv_aload_n hx hb d_La_law_647 rfl (lv_at hl 3 rfl) ?_
            refine lv_aload_n hx hb d_La_law_648 rfl (lv_at hl 1 rfl) ?_
            refine lv_iload hx hb d_La_law_649 (lv_at hl 5 rfl) ?_
            refine lv_iconst (v := nI 1) hx hb d_La_law_651 (by decide +kernel) ?_
            refine lv_iadd hx hb d_La_law_652 ?_
            refine aw_ti (nI_add (6 * t) 1) ?_
            refine va_sld hx hb hX hbl hbA hS (i := (nI ((6 * t) + 1))) (vp_in_nI (by omega) (by omega)) d_La_law_653 ?_
            refine aw_ti (y := nI j) (by rw [nI_clamp (by omega)]; exact hc0.symm) ?_
            refine lv_aload_n hx hb d_La_law_654 rfl (lv_at hl 1 rfl) ?_
            refine lv_iload hx hb d_La_law_655 (lv_at hl 5 rfl) ?_
            refine lv_iconst (v := nI 2) hx hb d_La_law_657 (by decide +kernel) ?_
            refine lv_iadd hx hb d_La_law_658 ?_
            refine aw_ti (nI_add (6 * t) 2) ?_
            refine va_sld hx hb hX hbl hbA hS (i := (nI ((6 * t) + 2))) (vp_in_nI (by omega) (by omega)) d_La_law_659 ?_
            refine aw_ti (y := s2) (by rw [nI_clamp (by omega)]; exact hs2.symm) ?_
            have hj250 : ∀ x251 : Int32, (if s2 = 0 then nI 0 else nI 1) = x251 → W p l e room_1 s m #[Value.ref b] below meth c H locs ((85 + t) + 1) ((1246 + 6 * t) + 6) (lw_Z below #[Value.ref b] s) (F0 m 668 ls [.int x251, .int (nI j), .ref (aw_m ad 0)]) := by
              intro x251 ebx251
              refine lv_aload_n hx hb d_La_law_668 rfl (lv_at hl 1 rfl) ?_
              refine lv_iload hx hb d_La_law_669 (lv_at hl 5 rfl) ?_
              refine lv_iconst (v := nI 3) hx hb d_La_law_671 (by decide +kernel) ?_
              refine lv_iadd hx hb d_La_law_672 ?_
              refine aw_ti (nI_add (6 * t) 3) ?_
              refine va_sld hx hb hX hbl hbA hS (i := (nI ((6 * t) + 3))) (vp_in_nI (by omega) (by omega)) d_La_law_673 ?_
              refine aw_ti (y := fr) (by rw [nI_clamp (by omega)]; exact hfr.symm) ?_
              refine lv_aload_n hx hb d_La_law_674 rfl (lv_at hl 1 rfl) ?_
              refine lv_iload hx hb d_La_law_675 (lv_at hl 5 rfl) ?_
              refine lv_iconst (v := nI 4) hx hb d_La_law_677 (by decide +kernel) ?_
              refine lv_iadd hx hb d_La_law_678 ?_
              refine aw_ti (nI_add (6 * t) 4) ?_
              refine va_sld hx hb hX hbl hbA hS (i := (nI ((6 * t) + 4))) (vp_in_nI (by omega) (by omega)) d_La_law_679 ?_
              refine aw_ti (y := m0) (by rw [nI_clamp (by omega)]; exact hm0.symm) ?_
              obtain ⟨_, he252⟩ := zr_M0 hSh
              refine va_calli (va_runV (As := [.int (nI j), .int x251, .int fr, .int m0]) (rest := []) ⟨hx, hb, hml, hown, hG⟩ (k_Mo_feedXbV l D g ad N0 zG zO zX zY zA zB zM zI zL zK zN zF zQ j x251 fr m0 hj hi2) (aw_wV 4 hG gw_12_26 gw_12_23 gw_0_10 gw_12_24 gw_12_25 rfl rfl hd_Mo_feed ⟨Nat.le_of_ble_eq_true rfl, Nat.le_of_ble_eq_true rfl⟩) (ag_qV (va_recv hK hP rfl he252) hP hD hSh hU hS) rfl rfl hl.1 rfl (lv_room (Nat.le_of_ble_eq_true rfl)) d_La_law_680 ⟨by omega, by omega⟩) hS (fun _ _ h => h) (fun _ h => h) ?_
              clear hP hD hSh hS he252
              intro x253 u8 t8 H locs ht _ ex253 hB _ _ hS
              obtain ⟨L, hP, hD, hSh⟩ := hB
              rw [ht] at hP
              clear ht
              have ex253 := ex253.symm
              refine lv_istore hx hb d_La_law_683 hl (by decide) rfl (fun ls hl => ?_)
              have hl : lv_has ls 8 [(6, .int x253), (5, .int (nI 1)), (0, .ref b), (1, .ref (aw_r ad 0)), (2, .ref (aw_m ad 0)), (3, .ref (aw_o ad)), (4, .int (nI (6 * t)))] := hl
              refine lv_goto (tgt := 837) hx hb d_La_law_685 (by decide) ?_
              refine lv_iinc (k := 6) (v := nI (6 * t + 6)) hx hb d_La_law_837 hl rfl (aw_inc (6 * t) 6 6 (by decide +kernel)) (by decide) rfl (fun ls hl => ?_)
              have hl : lv_has ls 8 [(4, .int (nI (6 * t + 6))), (6, .int x253), (5, .int (nI 1)), (0, .ref b), (1, .ref (aw_r ad 0)), (2, .ref (aw_m ad 0)), (3, .ref (aw_o ad))] := hl
              refine lv_goto (tgt := 23) hx hb d_La_law_840 (by decide) ?_
              have hl := lv_sub hl (l' := [(0, .ref b), (1, .ref (aw_r ad 0)), (2, .ref (aw_m ad 0)), (3, .ref (aw_o ad)), (4, .int (nI (6 * t + 6)))]) [3, 4, 5, 6, 0] rfl
              refine W.widen (k := 85 + (t + 1)) (n := 1246 + 6 * (t + 1)) (by omega) (by omega) ?_
              exact ih (t + 1) zG zO zX zY zA zB zM zI zL zK zN (nI 1) zQ _ _ L ls (by omega) hP hD hSh hR hS (by first | exact hl | simpa [Nat.mul_add] using hl)
            refine lv_if_eq (tgt := 667) hx hb d_La_law_660 (by decide) (fun h9 => ?_) (fun h9 => ?_)
            · refine lv_iconst (v := nI 0) hx hb d_La_law_667 (by decide +kernel) ?_
              exact hj250 _ (if_pos h9)
            · refine lv_iconst (v := nI 1) hx hb d_La_law_663 (by decide +kernel) ?_
              refine lv_goto (tgt := 668) hx hb d_La_law_664 (by decide) ?_
              exact hj250 _ (if_neg h9)
          refine lv_if_eq (tgt := 628) hx hb d_La_law_621 (by decide) (fun h9 => ?_) (fun h9 => ?_)
          · refine lv_iconst (v := nI 0) hx hb d_La_law_628 (by decide +kernel) ?_
            exact hj247 _ (if_pos h9)
          · refine lv_iconst (v := nI 1) hx hb d_La_law_624 (by decide +kernel) ?_
            refine lv_goto (tgt := 629) hx hb d_La_law_625 (by decide) ?_
            exact hj247 _ (if_neg h9)
        · rcases aw_p0f fr with hi | ⟨k, rfl, hk⟩
          · by_cases hs : (zG j).1 = 3
            · by_cases h5 : (zG j).2 = 5
              · refine lv_aload_n hx hb d_La_law_608 rfl (lv_at hl 1 rfl) ?_
                refine lv_aload_n hx hb d_La_law_609 rfl (lv_at hl 0 rfl) ?_
                refine lv_iload hx hb d_La_law_610 (lv_at hl 4 rfl) ?_
                refine lv_iconst (v := nI 1) hx hb d_La_law_612 (by decide +kernel) ?_
                refine lv_iadd hx hb d_La_law_613 ?_
                refine aw_ti (nI_add (6 * t) 1) ?_
                refine va_sld hx hb hX hbl hbA hS (i := (nI ((6 * t) + 1))) (vp_in_nI (by omega) (by omega)) d_La_law_614 ?_
                refine aw_ti (y := nI j) (by rw [nI_clamp (by omega)]; exact hc0.symm) ?_
                refine lv_aload_n hx hb d_La_law_615 rfl (lv_at hl 0 rfl) ?_
                refine lv_iload hx hb d_La_law_616 (lv_at hl 4 rfl) ?_
                refine lv_iconst (v := nI 2) hx hb d_La_law_618 (by decide +kernel) ?_
                refine lv_iadd hx hb d_La_law_619 ?_
                refine aw_ti (nI_add (6 * t) 2) ?_
                refine va_sld hx hb hX hbl hbA hS (i := (nI ((6 * t) + 2))) (vp_in_nI (by omega) (by omega)) d_La_law_620 ?_
                refine aw_ti (y := s2) (by rw [nI_clamp (by omega)]; exact hs2.symm) ?_
                have hj254 : ∀ x255 : Int32, (if s2 = 0 then nI 0 else nI 1) = x255 → W p l e room_1 s m #[Value.ref b] below meth c H locs (85 + t) (1246 + 6 * t) (lw_Z below #[Value.ref b] s) (F0 m 629 ls [.int x255, .int (nI j), .ref (aw_r ad 0)]) := by
                  intro x255 ebx255
                  refine lv_aload_n hx hb d_La_law_629 rfl (lv_at hl 0 rfl) ?_
                  refine lv_iload hx hb d_La_law_630 (lv_at hl 4 rfl) ?_
                  refine lv_iconst (v := nI 3) hx hb d_La_law_632 (by decide +kernel) ?_
                  refine lv_iadd hx hb d_La_law_633 ?_
                  refine aw_ti (nI_add (6 * t) 3) ?_
                  refine va_sld hx hb hX hbl hbA hS (i := (nI ((6 * t) + 3))) (vp_in_nI (by omega) (by omega)) d_La_law_634 ?_
                  refine aw_ti (y := fr) (by rw [nI_clamp (by omega)]; exact hfr.symm) ?_
                  refine lv_aload_n hx hb d_La_law_635 rfl (lv_at hl 0 rfl) ?_
                  refine lv_iload hx hb d_La_law_636 (lv_at hl 4 rfl) ?_
                  refine lv_iconst (v := nI 4) hx hb d_La_law_638 (by decide +kernel) ?_
                  refine lv_iadd hx hb d_La_law_639 ?_
                  refine aw_ti (nI_add (6 * t) 4) ?_
                  refine va_sld hx hb hX hbl hbA hS (i := (nI ((6 * t) + 4))) (vp_in_nI (by omega) (by omega)) d_La_law_640 ?_
                  refine aw_ti (y := nI 0) (by rw [nI_clamp (by omega)]; exact hm0.symm) ?_
                  refine lv_aload_n hx hb d_La_law_641 rfl (lv_at hl 3 rfl) ?_
                  refine va_calli (vx_runSW (As := [.ref (aw_r ad 0), .int (nI j), .int x255, .int fr, .int (nI 0), .ref (aw_o ad)]) (rest := []) ⟨hx, hb, hml, hown, hG⟩ (k_La_feedXs0V l hst D g ad N0 zG zO zX zY zA zB zM zI zL zK zN zF zQ j x255 fr hj (by omega)) (aw_wW 6 hG gw_7_42 gw_7_40 gw_0_0 gw_7_41 rfl rfl hd_La_feed ⟨Nat.le_of_ble_eq_true rfl, Nat.le_of_ble_eq_true rfl⟩) (ag_qS hP hD hSh hU hS) rfl rfl hl.1 rfl (lv_room (Nat.le_of_ble_eq_true rfl)) d_La_law_642 ⟨by omega, by omega⟩) hS (fun _ _ h => h) (fun _ h => h) ?_
                  clear hP hD hSh hS
                  intro x256 u8 t8 H locs ht _ ex256 hB _ _ hS
                  obtain ⟨L, hP, hD, hSh⟩ := hB
                  rw [ht] at hP
                  clear ht
                  subst ex256
                  refine lv_istore hx hb d_La_law_645 hl (by decide) rfl (fun ls hl => ?_)
                  have hl : lv_has ls 8 [(5, .int (nI 2)), (0, .ref b), (1, .ref (aw_r ad 0)), (2, .ref (aw_m ad 0)), (3, .ref (aw_o ad)), (4, .int (nI (6 * t)))] := hl
                  refine lv_aload_n hx hb d_La_law_647 rfl (lv_at hl 3 rfl) ?_
                  refine lv_aload_n hx hb d_La_law_648 rfl (lv_at hl 1 rfl) ?_
                  refine lv_iload hx hb d_La_law_649 (lv_at hl 5 rfl) ?_
                  refine lv_iconst (v := nI 1) hx hb d_La_law_651 (by decide +kernel) ?_
                  refine lv_iadd hx hb d_La_law_652 ?_
                  refine aw_ti (nI_add (6 * t) 1) ?_
                  refine va_sld hx hb hX hbl hbA hS (i := (nI ((6 * t) + 1))) (vp_in_nI (by omega) (by omega)) d_La_law_653 ?_
                  refine aw_ti (y := nI j) (by rw [nI_clamp (by omega)]; exact hc0.symm) ?_
                  refine lv_aload_n hx hb d_La_law_654 rfl (lv_at hl 1 rfl) ?_
                  refine lv_iload hx hb d_La_law_655 (lv_at hl 5 rfl) ?_
                  refine lv_iconst (v := nI 2) hx hb d_La_law_657 (by decide +kernel) ?_
                  refine lv_iadd hx hb d_La_law_658 ?_
                  refine aw_ti (nI_add (6 * t) 2) ?_
                  refine va_sld hx hb hX hbl hbA hS (i := (nI ((6 * t) + 2))) (vp_in_nI (by omega) (by omega)) d_La_law_659 ?_
                  refine aw_ti (y := s2) (by rw [nI_clamp (by omega)]; exact hs2.symm) ?_
                  have hj257 : ∀ x258 : Int32, (if s2 = 0 then nI 0 else nI 1) = x258 → W p l e room_1 s m #[Value.ref b] below meth c H locs ((85 + t) + 1) ((1246 + 6 * t) + 6) (lw_Z below #[Value.ref b] s) (F0 m 668 ls [.int x258, .int (nI j), .ref (aw_m ad 0)]) := by
                    intro x258 ebx258
                    refine lv_aload_n hx hb d_La_law_668 rfl (lv_at hl 1 rfl) ?_
                    refine lv_iload hx hb d_La_law_669 (lv_at hl 5 rfl) ?_
                    refine lv_iconst (v := nI 3) hx hb d_La_law_671 (by decide +kernel) ?_
                    refine lv_iadd hx hb d_La_law_672 ?_
                    refine aw_ti (nI_add (6 * t) 3) ?_
                    refine va_sld hx hb hX hbl hbA hS (i := (nI ((6 * t) + 3))) (vp_in_nI (by omega) (by omega)) d_La_law_673 ?_
                    refine aw_ti (y := fr) (by rw [nI_clamp (by omega)]; exact hfr.symm) ?_
                    refine lv_aload_n hx hb d_La_law_674 rfl (lv_at hl 1 rfl) ?_
                    refine lv_iload hx hb d_La_law_675 (lv_at hl 5 rfl) ?_
                    refine lv_iconst (v := nI 4) hx hb d_La_law_677 (by decide +kernel) ?_
                    refine lv_iadd hx hb d_La_law_678 ?_
                    refine aw_ti (nI_add (6 * t) 4) ?_
                    refine va_sld hx hb hX hbl hbA hS (i := (nI ((6 * t) + 4))) (vp_in_nI (by omega) (by omega)) d_La_law_679 ?_
                    refine aw_ti (y := nI 0) (by rw [nI_clamp (by omega)]; exact hm0.symm) ?_
                    obtain ⟨_, he259⟩ := zr_M0 hSh
                    refine va_calli (va_runV (As := [.int (nI j), .int x258, .int fr, .int (nI 0)]) (rest := []) ⟨hx, hb, hml, hown, hG⟩ (k_Mo_feedXbV l D g ad N0 zG zO zX zY zA zB zM zI zL zK zN zF zQ j x258 fr (nI 0) hj hi) (aw_wV 4 hG gw_12_26 gw_12_23 gw_0_10 gw_12_24 gw_12_25 rfl rfl hd_Mo_feed ⟨Nat.le_of_ble_eq_true rfl, Nat.le_of_ble_eq_true rfl⟩) (ag_qV (va_recv hK hP rfl he259) hP hD hSh hU hS) rfl rfl hl.1 rfl (lv_room (Nat.le_of_ble_eq_true rfl)) d_La_law_680 ⟨by omega, by omega⟩) hS (fun _ _ h => h) (fun _ h => h) ?_
                    clear hP hD hSh hS he259
                    intro x260 u8 t8 H locs ht _ ex260 hB _ _ hS
                    obtain ⟨L, hP, hD, hSh⟩ := hB
                    rw [ht] at hP
                    clear ht
                    have ex260 := ex260.symm
                    refine lv_istore hx hb d_La_law_683 hl (by decide) rfl (fun ls hl => ?_)
                    have hl : lv_has ls 8 [(6, .int x260), (5, .int (nI 2)), (0, .ref b), (1, .ref (aw_r ad 0)), (2, .ref (aw_m ad 0)), (3, .ref (aw_o ad)), (4, .int (nI (6 * t)))] := hl
                    refine lv_goto (tgt := 837) hx hb d_La_law_685 (by decide) ?_
                    refine lv_iinc (k := 6) (v := nI (6 * t + 6)) hx hb d_La_law_837 hl rfl (aw_inc (6 * t) 6 6 (by decide +kernel)) (by decide) rfl (fun ls hl => ?_)
                    have hl : lv_has ls 8 [(4, .int (nI (6 * t + 6))), (6, .int x260), (5, .int (nI 2)), (0, .ref b), (1, .ref (aw_r ad 0)), (2, .ref (aw_m ad 0)), (3, .ref (aw_o ad))] := hl
                    refine lv_goto (tgt := 23) hx hb d_La_law_840 (by decide) ?_
                    have hl := lv_sub hl (l' := [(0, .ref b), (1, .ref (aw_r ad 0)), (2, .ref (aw_m ad 0)), (3, .ref (aw_o ad)), (4, .int (nI (6 * t + 6)))]) [3, 4, 5, 6, 0] rfl
                    refine W.widen (k := 85 + (t + 1)) (n := 1246 + 6 * (t + 1)) (by omega) (by omega) ?_
                    exact ih (t + 1) zG zO zX zY zA zB zM zI zL zK zN (nI 1) zQ _ _ L ls (by omega) hP hD hSh hR hS (by first | exact hl | simpa [Nat.mul_add] using hl)
                  refine lv_if_eq (tgt := 667) hx hb d_La_law_660 (by decide) (fun h9 => ?_) (fun h9 => ?_)
                  · refine lv_iconst (v := nI 0) hx hb d_La_law_667 (by decide +kernel) ?_
                    exact hj257 _ (if_pos h9)
                  · refine lv_iconst (v := nI 1) hx hb d_La_law_663 (by decide +kernel) ?_
                    refine lv_goto (tgt := 668) hx hb d_La_law_664 (by decide) ?_
                    exact hj257 _ (if_neg h9)
                refine lv_if_eq (tgt := 628) hx hb d_La_law_621 (by decide) (fun h9 => ?_) (fun h9 => ?_)
                · refine lv_iconst (v := nI 0) hx hb d_La_law_628 (by decide +kernel) ?_
                  exact hj254 _ (if_pos h9)
                · refine lv_iconst (v := nI 1) hx hb d_La_law_624 (by decide +kernel) ?_
                  refine lv_goto (tgt := 629) hx hb d_La_law_625 (by decide) ?_
                  exact hj254 _ (if_neg h9)
              · by_cases hm : (zG j).2 ≤ 1
                · refine lv_aload_n hx hb d_La_law_608 rfl (lv_at hl 1 rfl) ?_
                  refine lv_aload_n hx hb d_La_law_609 rfl (lv_at hl 0 rfl) ?_
                  refine lv_iload hx hb d_La_law_610 (lv_at hl 4 rfl) ?_
                  refine lv_iconst (v := nI 1) hx hb d_La_law_612 (by decide +kernel) ?_
                  refine lv_iadd hx hb d_La_law_613 ?_
                  refine aw_ti (nI_add (6 * t) 1) ?_
                  refine va_sld hx hb hX hbl hbA hS (i := (nI ((6 * t) + 1))) (vp_in_nI (by omega) (by omega)) d_La_law_614 ?_
                  refine aw_ti (y := nI j) (by rw [nI_clamp (by omega)]; exact hc0.symm) ?_
                  refine lv_aload_n hx hb d_La_law_615 rfl (lv_at hl 0 rfl) ?_
                  refine lv_iload hx hb d_La_law_616 (lv_at hl 4 rfl) ?_
                  refine lv_iconst (v := nI 2) hx hb d_La_law_618 (by decide +kernel) ?_
                  refine lv_iadd hx hb d_La_law_619 ?_
                  refine aw_ti (nI_add (6 * t) 2) ?_
                  refine va_sld hx hb hX hbl hbA hS (i := (nI ((6 * t) + 2))) (vp_in_nI (by omega) (by omega)) d_La_law_620 ?_
                  refine aw_ti (y := s2) (by rw [nI_clamp (by omega)]; exact hs2.symm) ?_
                  have hj261 : ∀ x262 : Int32, (if s2 = 0 then nI 0 else nI 1) = x262 → W p l e room_1 s m #[Value.ref b] below meth c H locs (85 + t) (1246 + 6 * t) (lw_Z below #[Value.ref b] s) (F0 m 629 ls [.int x262, .int (nI j), .ref (aw_r ad 0)]) := by
                    intro x262 ebx262
                    refine lv_aload_n hx hb d_La_law_629 rfl (lv_at hl 0 rfl) ?_
                    refine lv_iload hx hb d_La_law_630 (lv_at hl 4 rfl) ?_
                    refine lv_iconst (v := nI 3) hx hb d_La_law_632 (by decide +kernel) ?_
                    refine lv_iadd hx hb d_La_law_633 ?_
                    refine aw_ti (nI_add (6 * t) 3) ?_
                    refine va_sld hx hb hX hbl hbA hS (i := (nI ((6 * t) + 3))) (vp_in_nI (by omega) (by omega)) d_La_law_634 ?_
                    refine aw_ti (y := fr) (by rw [nI_clamp (by omega)]; exact hfr.symm) ?_
                    refine lv_aload_n hx hb d_La_law_635 rfl (lv_at hl 0 rfl) ?_
                    refine lv_iload hx hb d_La_law_636 (lv_at hl 4 rfl) ?_
                    refine lv_iconst (v := nI 4) hx hb d_La_law_638 (by decide +kernel) ?_
                    refine lv_iadd hx hb d_La_law_639 ?_
                    refine aw_ti (nI_add (6 * t) 4) ?_
                    refine va_sld hx hb hX hbl hbA hS (i := (nI ((6 * t) + 4))) (vp_in_nI (by omega) (by omega)) d_La_law_640 ?_
                    refine aw_ti (y := nI 0) (by rw [nI_clamp (by omega)]; exact hm0.symm) ?_
                    refine lv_aload_n hx hb d_La_law_641 rfl (lv_at hl 3 rfl) ?_
                    refine va_calli (vx_runSW (As := [.ref (aw_r ad 0), .int (nI j), .int x262, .int fr, .int (nI 0), .ref (aw_o ad)]) (rest := []) ⟨hx, hb, hml, hown, hG⟩ (k_La_feed10bV l hst D g ad N0 zG zO zX zY zA zB zM zI zL zK zN zF zQ j x262 fr hj (by omega) (by omega)) (aw_wW 6 hG gw_7_42 gw_7_40 gw_0_0 gw_7_41 rfl rfl hd_La_feed ⟨Nat.le_of_ble_eq_true rfl, Nat.le_of_ble_eq_true rfl⟩) (ag_qS hP hD hSh hU hS) rfl rfl hl.1 rfl (lv_room (Nat.le_of_ble_eq_true rfl)) d_La_law_642 ⟨by omega, by omega⟩) hS (fun _ _ h => h) (fun _ h => h) ?_
                    clear hP hD hSh hS
                    intro x263 u8 t8 H locs ht _ ex263 hB _ _ hS
                    obtain ⟨L, hP, hD, hSh⟩ := hB
                    rw [ht] at hP
                    clear ht
                    subst ex263
                    obtain ⟨zY264, ezY264⟩ : ∃ z : Nat → Nat → Int32, v_La_feed10bV_zY zY j = z := ⟨_, rfl⟩
                    rw [ezY264] at hSh
                    obtain ⟨zQ265, ezQ265⟩ : ∃ z : Int64, v_La_feed10bV_zQ zY j = z := ⟨_, rfl⟩
                    rw [ezQ265] at hSh
                    refine lv_istore hx hb d_La_law_645 hl (by decide) rfl (fun ls hl => ?_)
                    have hl : lv_has ls 8 [(5, .int (nI 0)), (0, .ref b), (1, .ref (aw_r ad 0)), (2, .ref (aw_m ad 0)), (3, .ref (aw_o ad)), (4, .int (nI (6 * t)))] := hl
                    refine lv_aload_n hx hb d_La_law_647 rfl (lv_at hl 3 rfl) ?_
                    refine lv_aload_n hx hb d_La_law_648 rfl (lv_at hl 1 rfl) ?_
                    refine lv_iload hx hb d_La_law_649 (lv_at hl 5 rfl) ?_
                    refine lv_iconst (v := nI 1) hx hb d_La_law_651 (by decide +kernel) ?_
                    refine lv_iadd hx hb d_La_law_652 ?_
                    refine aw_ti (nI_add (6 * t) 1) ?_
                    refine va_sld hx hb hX hbl hbA hS (i := (nI ((6 * t) + 1))) (vp_in_nI (by omega) (by omega)) d_La_law_653 ?_
                    refine aw_ti (y := nI j) (by rw [nI_clamp (by omega)]; exact hc0.symm) ?_
                    refine lv_aload_n hx hb d_La_law_654 rfl (lv_at hl 1 rfl) ?_
                    refine lv_iload hx hb d_La_law_655 (lv_at hl 5 rfl) ?_
                    refine lv_iconst (v := nI 2) hx hb d_La_law_657 (by decide +kernel) ?_
                    refine lv_iadd hx hb d_La_law_658 ?_
                    refine aw_ti (nI_add (6 * t) 2) ?_
                    refine va_sld hx hb hX hbl hbA hS (i := (nI ((6 * t) + 2))) (vp_in_nI (by omega) (by omega)) d_La_law_659 ?_
                    refine aw_ti (y := s2) (by rw [nI_clamp (by omega)]; exact hs2.symm) ?_
                    have hj266 : ∀ x267 : Int32, (if s2 = 0 then nI 0 else nI 1) = x267 → W p l e room_1 s m #[Value.ref b] below meth c H locs ((85 + t) + 1) ((1246 + 6 * t) + 6) (lw_Z below #[Value.ref b] s) (F0 m 668 ls [.int x267, .int (nI j), .ref (aw_m ad 0)]) := by
                      intro x267 ebx267
                      refine lv_aload_n hx hb d_La_law_668 rfl (lv_at hl 1 rfl) ?_
                      refine lv_iload hx hb d_La_law_669 (lv_at hl 5 rfl) ?_
                      refine lv_iconst (v := nI 3) hx hb d_La_law_671 (by decide +kernel) ?_
                      refine lv_iadd hx hb d_La_law_672 ?_
                      refine aw_ti (nI_add (6 * t) 3) ?_
                      refine va_sld hx hb hX hbl hbA hS (i := (nI ((6 * t) + 3))) (vp_in_nI (by omega) (by omega)) d_La_law_673 ?_
                      refine aw_ti (y := fr) (by rw [nI_clamp (by omega)]; exact hfr.symm) ?_
                      refine lv_aload_n hx hb d_La_law_674 rfl (lv_at hl 1 rfl) ?_
                      refine lv_iload hx hb d_La_law_675 (lv_at hl 5 rfl) ?_
                      refine lv_iconst (v := nI 4) hx hb d_La_law_677 (by decide +kernel) ?_
                      refine lv_iadd hx hb d_La_law_678 ?_
                      refine aw_ti (nI_add (6 * t) 4) ?_
                      refine va_sld hx hb hX hbl hbA hS (i := (nI ((6 * t) + 4))) (vp_in_nI (by omega) (by omega)) d_La_law_679 ?_
                      refine aw_ti (y := nI 0) (by rw [nI_clamp (by omega)]; exact hm0.symm) ?_
                      obtain ⟨_, he268⟩ := zr_M0 hSh
                      refine va_calli (va_runV (As := [.int (nI j), .int x267, .int fr, .int (nI 0)]) (rest := []) ⟨hx, hb, hml, hown, hG⟩ (k_Mo_feedXbV l D g ad N0 zG zO zX zY264 zA zB zM zI zL zK zN zF zQ265 j x267 fr (nI 0) hj hi) (aw_wV 4 hG gw_12_26 gw_12_23 gw_0_10 gw_12_24 gw_12_25 rfl rfl hd_Mo_feed ⟨Nat.le_of_ble_eq_true rfl, Nat.le_of_ble_eq_true rfl⟩) (ag_qV (va_recv hK hP rfl he268) hP hD hSh hU hS) rfl rfl hl.1 rfl (lv_room (Nat.le_of_ble_eq_true rfl)) d_La_law_680 ⟨by omega, by omega⟩) hS (fun _ _ h => h) (fun _ h => h) ?_
                      clear hP hD hSh hS he268
                      intro x269 u8 t8 H locs ht _ ex269 hB _ _ hS
                      obtain ⟨L, hP, hD, hSh⟩ := hB
                      rw [ht] at hP
                      clear ht
                      have ex269 := ex269.symm
                      refine lv_istore hx hb d_La_law_683 hl (by decide) rfl (fun ls hl => ?_)
                      have hl : lv_has ls 8 [(6, .int x269), (5, .int (nI 0)), (0, .ref b), (1, .ref (aw_r ad 0)), (2, .ref (aw_m ad 0)), (3, .ref (aw_o ad)), (4, .int (nI (6 * t)))] := hl
                      refine lv_goto (tgt := 837) hx hb d_La_law_685 (by decide) ?_
                      refine lv_iinc (k := 6) (v := nI (6 * t + 6)) hx hb d_La_law_837 hl rfl (aw_inc (6 * t) 6 6 (by decide +kernel)) (by decide) rfl (fun ls hl => ?_)
                      have hl : lv_has ls 8 [(4, .int (nI (6 * t + 6))), (6, .int x269), (5, .int (nI 0)), (0, .ref b), (1, .ref (aw_r ad 0)), (2, .ref (aw_m ad 0)), (3, .ref (aw_o ad))] := hl
                      refine lv_goto (tgt := 23) hx hb d_La_law_840 (by decide) ?_
                      have hl := lv_sub hl (l' := [(0, .ref b), (1, .ref (aw_r ad 0)), (2, .ref (aw_m ad 0)), (3, .ref (aw_o ad)), (4, .int (nI (6 * t + 6)))]) [3, 4, 5, 6, 0] rfl
                      refine W.widen (k := 85 + (t + 1)) (n := 1246 + 6 * (t + 1)) (by omega) (by omega) ?_
                      have hR : az_R zG zO zX zY264 zA zB zM zI zL := by
                        subst ex269 ebx267 ezQ265 ezY264 ebx262
                        exact r_feed10b_Xb hR hj hs hm
                      exact ih (t + 1) zG zO zX zY264 zA zB zM zI zL zK zN (nI 1) zQ265 _ _ L ls (by omega) hP hD hSh hR hS (by first | exact hl | simpa [Nat.mul_add] using hl)
                    refine lv_if_eq (tgt := 667) hx hb d_La_law_660 (by decide) (fun h9 => ?_) (fun h9 => ?_)
                    · refine lv_iconst (v := nI 0) hx hb d_La_law_667 (by decide +kernel) ?_
                      exact hj266 _ (if_pos h9)
                    · refine lv_iconst (v := nI 1) hx hb d_La_law_663 (by decide +kernel) ?_
                      refine lv_goto (tgt := 668) hx hb d_La_law_664 (by decide) ?_
                      exact hj266 _ (if_neg h9)
                  refine lv_if_eq (tgt := 628) hx hb d_La_law_621 (by decide) (fun h9 => ?_) (fun h9 => ?_)
                  · refine lv_iconst (v := nI 0) hx hb d_La_law_628 (by decide +kernel) ?_
                    exact hj261 _ (if_pos h9)
                  · refine lv_iconst (v := nI 1) hx hb d_La_law_624 (by decide +kernel) ?_
                    refine lv_goto (tgt := 629) hx hb d_La_law_625 (by decide) ?_
                    exact hj261 _ (if_neg h9)
                · refine lv_aload_n hx hb d_La_law_608 rfl (lv_at hl 1 rfl) ?_
                  refine lv_aload_n hx hb d_La_law_609 rfl (lv_at hl 0 rfl) ?_
                  refine lv_iload hx hb d_La_law_610 (lv_at hl 4 rfl) ?_
                  refine lv_iconst (v := nI 1) hx hb d_La_law_612 (by decide +kernel) ?_
                  refine lv_iadd hx hb d_La_law_613 ?_
                  refine aw_ti (nI_add (6 * t) 1) ?_
                  refine va_sld hx hb hX hbl hbA hS (i := (nI ((6 * t) + 1))) (vp_in_nI (by omega) (by omega)) d_La_law_614 ?_
                  refine aw_ti (y := nI j) (by rw [nI_clamp (by omega)]; exact hc0.symm) ?_
                  refine lv_aload_n hx hb d_La_law_615 rfl (lv_at hl 0 rfl) ?_
                  refine lv_iload hx hb d_La_law_616 (lv_at hl 4 rfl) ?_
                  refine lv_iconst (v := nI 2) hx hb d_La_law_618 (by decide +kernel) ?_
                  refine lv_iadd hx hb d_La_law_619 ?_
                  refine aw_ti (nI_add (6 * t) 2) ?_
                  refine va_sld hx hb hX hbl hbA hS (i := (nI ((6 * t) + 2))) (vp_in_nI (by omega) (by omega)) d_La_law_620 ?_
                  refine aw_ti (y := s2) (by rw [nI_clamp (by omega)]; exact hs2.symm) ?_
                  have hj270 : ∀ x271 : Int32, (if s2 = 0 then nI 0 else nI 1) = x271 → W p l e room_1 s m #[Value.ref b] below meth c H locs (85 + t) (1246 + 6 * t) (lw_Z below #[Value.ref b] s) (F0 m 629 ls [.int x271, .int (nI j), .ref (aw_r ad 0)]) := by
                    intro x271 ebx271
                    refine lv_aload_n hx hb d_La_law_629 rfl (lv_at hl 0 rfl) ?_
                    refine lv_iload hx hb d_La_law_630 (lv_at hl 4 rfl) ?_
                    refine lv_iconst (v := nI 3) hx hb d_La_law_632 (by decide +kernel) ?_
                    refine lv_iadd hx hb d_La_law_633 ?_
                    refine aw_ti (nI_add (6 * t) 3) ?_
                    refine va_sld hx hb hX hbl hbA hS (i := (nI ((6 * t) + 3))) (vp_in_nI (by omega) (by omega)) d_La_law_634 ?_
                    refine aw_ti (y := fr) (by rw [nI_clamp (by omega)]; exact hfr.symm) ?_
                    refine lv_aload_n hx hb d_La_law_635 rfl (lv_at hl 0 rfl) ?_
                    refine lv_iload hx hb d_La_law_636 (lv_at hl 4 rfl) ?_
                    refine lv_iconst (v := nI 4) hx hb d_La_law_638 (by decide +kernel) ?_
                    refine lv_iadd hx hb d_La_law_639 ?_
                    refine aw_ti (nI_add (6 * t) 4) ?_
                    refine va_sld hx hb hX hbl hbA hS (i := (nI ((6 * t) + 4))) (vp_in_nI (by omega) (by omega)) d_La_law_640 ?_
                    refine aw_ti (y := nI 0) (by rw [nI_clamp (by omega)]; exact hm0.symm) ?_
                    refine lv_aload_n hx hb d_La_law_641 rfl (lv_at hl 3 rfl) ?_
                    refine va_calli (vx_runSW (As := [.ref (aw_r ad 0), .int (nI j), .int x271, .int fr, .int (nI 0), .ref (aw_o ad)]) (rest := []) ⟨hx, hb, hml, hown, hG⟩ (k_La_feed10V l hst D g ad N0 zG zO zX zY zA zB zM zI zL zK zN zF zQ j x271 fr hj (by omega) (by omega) (by omega)) (aw_wW 6 hG gw_7_42 gw_7_40 gw_0_0 gw_7_41 rfl rfl hd_La_feed ⟨Nat.le_of_ble_eq_true rfl, Nat.le_of_ble_eq_true rfl⟩) (ag_qS hP hD hSh hU hS) rfl rfl hl.1 rfl (lv_room (Nat.le_of_ble_eq_true rfl)) d_La_law_642 ⟨by omega, by omega⟩) hS (fun _ _ h => h) (fun _ h => h) ?_
                    clear hP hD hSh hS
                    intro x272 u8 t8 H locs ht _ ex272 hB _ _ hS
                    obtain ⟨L, hP, hD, hSh⟩ := hB
                    rw [ht] at hP
                    clear ht
                    subst ex272
                    obtain ⟨zY273, ezY273⟩ : ∃ z : Nat → Nat → Int32, v_La_feed10V_zY zY j = z := ⟨_, rfl⟩
                    rw [ezY273] at hSh
                    obtain ⟨zQ274, ezQ274⟩ : ∃ z : Int64, v_La_feed10V_zQ zY j = z := ⟨_, rfl⟩
                    rw [ezQ274] at hSh
                    refine lv_istore hx hb d_La_law_645 hl (by decide) rfl (fun ls hl => ?_)
                    have hl : lv_has ls 8 [(5, .int (nI 0)), (0, .ref b), (1, .ref (aw_r ad 0)), (2, .ref (aw_m ad 0)), (3, .ref (aw_o ad)), (4, .int (nI (6 * t)))] := hl
                    refine lv_aload_n hx hb d_La_law_647 rfl (lv_at hl 3 rfl) ?_
                    refine lv_aload_n hx hb d_La_law_648 rfl (lv_at hl 1 rfl) ?_
                    refine lv_iload hx hb d_La_law_649 (lv_at hl 5 rfl) ?_
                    refine lv_iconst (v := nI 1) hx hb d_La_law_651 (by decide +kernel) ?_
                    refine lv_iadd hx hb d_La_law_652 ?_
                    refine aw_ti (nI_add (6 * t) 1) ?_
                    refine va_sld hx hb hX hbl hbA hS (i := (nI ((6 * t) + 1))) (vp_in_nI (by omega) (by omega)) d_La_law_653 ?_
                    refine aw_ti (y := nI j) (by rw [nI_clamp (by omega)]; exact hc0.symm) ?_
                    refine lv_aload_n hx hb d_La_law_654 rfl (lv_at hl 1 rfl) ?_
                    refine lv_iload hx hb d_La_law_655 (lv_at hl 5 rfl) ?_
                    refine lv_iconst (v := nI 2) hx hb d_La_law_657 (by decide +kernel) ?_
                    refine lv_iadd hx hb d_La_law_658 ?_
                    refine aw_ti (nI_add (6 * t) 2) ?_
                    refine va_sld hx hb hX hbl hbA hS (i := (nI ((6 * t) + 2))) (vp_in_nI (by omega) (by omega)) d_La_law_659 ?_
                    refine aw_ti (y := s2) (by rw [nI_clamp (by omega)]; exact hs2.symm) ?_
                    have hj275 : ∀ x276 : Int32, (if s2 = 0 then nI 0 else nI 1) = x276 → W p l e room_1 s m #[Value.ref b] below meth c H locs ((85 + t) + 1) ((1246 + 6 * t) + 6) (lw_Z below #[Value.ref b] s) (F0 m 668 ls [.int x276, .int (nI j), .ref (aw_m ad 0)]) := by
                      intro x276 ebx276
                      refine lv_aload_n hx hb d_La_law_668 rfl (lv_at hl 1 rfl) ?_
                      refine lv_iload hx hb d_La_law_669 (lv_at hl 5 rfl) ?_
                      refine lv_iconst (v := nI 3) hx hb d_La_law_671 (by decide +kernel) ?_
                      refine lv_iadd hx hb d_La_law_672 ?_
                      refine aw_ti (nI_add (6 * t) 3) ?_
                      refine va_sld hx hb hX hbl hbA hS (i := (nI ((6 * t) + 3))) (vp_in_nI (by omega) (by omega)) d_La_law_673 ?_
                      refine aw_ti (y := fr) (by rw [nI_clamp (by omega)]; exact hfr.symm) ?_
                      refine lv_aload_n hx hb d_La_law_674 rfl (lv_at hl 1 rfl) ?_
                      refine lv_iload hx hb d_La_law_675 (lv_at hl 5 rfl) ?_
                      refine lv_iconst (v := nI 4) hx hb d_La_law_677 (by decide +kernel) ?_
                      refine lv_iadd hx hb d_La_law_678 ?_
                      refine aw_ti (nI_add (6 * t) 4) ?_
                      refine va_sld hx hb hX hbl hbA hS (i := (nI ((6 * t) + 4))) (vp_in_nI (by omega) (by omega)) d_La_law_679 ?_
                      refine aw_ti (y := nI 0) (by rw [nI_clamp (by omega)]; exact hm0.symm) ?_
                      obtain ⟨_, he277⟩ := zr_M0 hSh
                      refine va_calli (va_runV (As := [.int (nI j), .int x276, .int fr, .int (nI 0)]) (rest := []) ⟨hx, hb, hml, hown, hG⟩ (k_Mo_feedXbV l D g ad N0 zG zO zX zY273 zA zB zM zI zL zK zN zF zQ274 j x276 fr (nI 0) hj hi) (aw_wV 4 hG gw_12_26 gw_12_23 gw_0_10 gw_12_24 gw_12_25 rfl rfl hd_Mo_feed ⟨Nat.le_of_ble_eq_true rfl, Nat.le_of_ble_eq_true rfl⟩) (ag_qV (va_recv hK hP rfl he277) hP hD hSh hU hS) rfl rfl hl.1 rfl (lv_room (Nat.le_of_ble_eq_true rfl)) d_La_law_680 ⟨by omega, by omega⟩) hS (fun _ _ h => h) (fun _ h => h) ?_
                      clear hP hD hSh hS he277
                      intro x278 u8 t8 H locs ht _ ex278 hB _ _ hS
                      obtain ⟨L, hP, hD, hSh⟩ := hB
                      rw [ht] at hP
                      clear ht
                      have ex278 := ex278.symm
                      refine lv_istore hx hb d_La_law_683 hl (by decide) rfl (fun ls hl => ?_)
                      have hl : lv_has ls 8 [(6, .int x278), (5, .int (nI 0)), (0, .ref b), (1, .ref (aw_r ad 0)), (2, .ref (aw_m ad 0)), (3, .ref (aw_o ad)), (4, .int (nI (6 * t)))] := hl
                      refine lv_goto (tgt := 837) hx hb d_La_law_685 (by decide) ?_
                      refine lv_iinc (k := 6) (v := nI (6 * t + 6)) hx hb d_La_law_837 hl rfl (aw_inc (6 * t) 6 6 (by decide +kernel)) (by decide) rfl (fun ls hl => ?_)
                      have hl : lv_has ls 8 [(4, .int (nI (6 * t + 6))), (6, .int x278), (5, .int (nI 0)), (0, .ref b), (1, .ref (aw_r ad 0)), (2, .ref (aw_m ad 0)), (3, .ref (aw_o ad))] := hl
                      refine lv_goto (tgt := 23) hx hb d_La_law_840 (by decide) ?_
                      have hl := lv_sub hl (l' := [(0, .ref b), (1, .ref (aw_r ad 0)), (2, .ref (aw_m ad 0)), (3, .ref (aw_o ad)), (4, .int (nI (6 * t + 6)))]) [3, 4, 5, 6, 0] rfl
                      refine W.widen (k := 85 + (t + 1)) (n := 1246 + 6 * (t + 1)) (by omega) (by omega) ?_
                      have hR : az_R zG zO zX zY273 zA zB zM zI zL := by
                        subst ex278 ebx276 ezQ274 ezY273 ebx271
                        exact r_feed10_Xb hR hj hs (by omega)
                      exact ih (t + 1) zG zO zX zY273 zA zB zM zI zL zK zN (nI 1) zQ274 _ _ L ls (by omega) hP hD hSh hR hS (by first | exact hl | simpa [Nat.mul_add] using hl)
                    refine lv_if_eq (tgt := 667) hx hb d_La_law_660 (by decide) (fun h9 => ?_) (fun h9 => ?_)
                    · refine lv_iconst (v := nI 0) hx hb d_La_law_667 (by decide +kernel) ?_
                      exact hj275 _ (if_pos h9)
                    · refine lv_iconst (v := nI 1) hx hb d_La_law_663 (by decide +kernel) ?_
                      refine lv_goto (tgt := 668) hx hb d_La_law_664 (by decide) ?_
                      exact hj275 _ (if_neg h9)
                  refine lv_if_eq (tgt := 628) hx hb d_La_law_621 (by decide) (fun h9 => ?_) (fun h9 => ?_)
                  · refine lv_iconst (v := nI 0) hx hb d_La_law_628 (by decide +kernel) ?_
                    exact hj270 _ (if_pos h9)
                  · refine lv_iconst (v := nI 1) hx hb d_La_law_624 (by decide +kernel) ?_
                    refine lv_goto (tgt := 629) hx hb d_La_law_625 (by decide) ?_
                    exact hj270 _ (if_neg h9)
            · refine lv_aload_n hx hb d_La_law_608 rfl (lv_at hl 1 rfl) ?_
              refine lv_aload_n hx hb d_La_law_609 rfl (lv_at hl 0 rfl) ?_
              refine lv_iload hx hb d_La_law_610 (lv_at hl 4 rfl) ?_
              refine lv_iconst (v := nI 1) hx hb d_La_law_612 (by decide +kernel) ?_
              refine lv_iadd hx hb d_La_law_613 ?_
              refine aw_ti (nI_add (6 * t) 1) ?_
              refine va_sld hx hb hX hbl hbA hS (i := (nI ((6 * t) + 1))) (vp_in_nI (by omega) (by omega)) d_La_law_614 ?_
              refine aw_ti (y := nI j) (by rw [nI_clamp (by omega)]; exact hc0.symm) ?_
              refine lv_aload_n hx hb d_La_law_615 rfl (lv_at hl 0 rfl) ?_
              refine lv_iload hx hb d_La_law_616 (lv_at hl 4 rfl) ?_
              refine lv_iconst (v := nI 2) hx hb d_La_law_618 (by decide +kernel) ?_
              refine lv_iadd hx hb d_La_law_619 ?_
              refine aw_ti (nI_add (6 * t) 2) ?_
              refine va_sld hx hb hX hbl hbA hS (i := (nI ((6 * t) + 2))) (vp_in_nI (by omega) (by omega)) d_La_law_620 ?_
              refine aw_ti (y := s2) (by rw [nI_clamp (by omega)]; exact hs2.symm) ?_
              have hj279 : ∀ x280 : Int32, (if s2 = 0 then nI 0 else nI 1) = x280 → W p l e room_1 s m #[Value.ref b] below meth c H locs (85 + t) (1246 + 6 * t) (lw_Z below #[Value.ref b] s) (F0 m 629 ls [.int x280, .int (nI j), .ref (aw_r ad 0)]) := by
                intro x280 ebx280
                refine lv_aload_n hx hb d_La_law_629 rfl (lv_at hl 0 rfl) ?_
                refine lv_iload hx hb d_La_law_630 (lv_at hl 4 rfl) ?_
                refine lv_iconst (v := nI 3) hx hb d_La_law_632 (by decide +kernel) ?_
                refine lv_iadd hx hb d_La_law_633 ?_
                refine aw_ti (nI_add (6 * t) 3) ?_
                refine va_sld hx hb hX hbl hbA hS (i := (nI ((6 * t) + 3))) (vp_in_nI (by omega) (by omega)) d_La_law_634 ?_
                refine aw_ti (y := fr) (by rw [nI_clamp (by omega)]; exact hfr.symm) ?_
                refine lv_aload_n hx hb d_La_law_635 rfl (lv_at hl 0 rfl) ?_
                refine lv_iload hx hb d_La_law_636 (lv_at hl 4 rfl) ?_
                refine lv_iconst (v := nI 4) hx hb d_La_law_638 (by decide +kernel) ?_
                refine lv_iadd hx hb d_La_law_639 ?_
                refine aw_ti (nI_add (6 * t) 4) ?_
                refine va_sld hx hb hX hbl hbA hS (i := (nI ((6 * t) + 4))) (vp_in_nI (by omega) (by omega)) d_La_law_640 ?_
                refine aw_ti (y := nI 0) (by rw [nI_clamp (by omega)]; exact hm0.symm) ?_
                refine lv_aload_n hx hb d_La_law_641 rfl (lv_at hl 3 rfl) ?_
                refine va_calli (vx_runSW (As := [.ref (aw_r ad 0), .int (nI j), .int x280, .int fr, .int (nI 0), .ref (aw_o ad)]) (rest := []) ⟨hx, hb, hml, hown, hG⟩ (k_La_feedXs0V l hst D g ad N0 zG zO zX zY zA zB zM zI zL zK zN zF zQ j x280 fr hj (by omega)) (aw_wW 6 hG gw_7_42 gw_7_40 gw_0_0 gw_7_41 rfl rfl hd_La_feed ⟨Nat.le_of_ble_eq_true rfl, Nat.le_of_ble_eq_true rfl⟩) (ag_qS hP hD hSh hU hS) rfl rfl hl.1 rfl (lv_room (Nat.le_of_ble_eq_true rfl)) d_La_law_642 ⟨by omega, by omega⟩) hS (fun _ _ h => h) (fun _ h => h) ?_
                clear hP hD hSh hS
                intro x281 u8 t8 H locs ht _ ex281 hB _ _ hS
                obtain ⟨L, hP, hD, hSh⟩ := hB
                rw [ht] at hP
                clear ht
                subst ex281
                refine lv_istore hx hb d_La_law_645 hl (by decide) rfl (fun ls hl => ?_)
                have hl : lv_has ls 8 [(5, .int (nI 2)), (0, .ref b), (1, .ref (aw_r ad 0)), (2, .ref (aw_m ad 0)), (3, .ref (aw_o ad)), (4, .int (nI (6 * t)))] := hl
                refine lv_aload_n hx hb d_La_law_647 rfl (lv_at hl 3 rfl) ?_
                refine lv_aload_n hx hb d_La_law_648 rfl (lv_at hl 1 rfl) ?_
                refine lv_iload hx hb d_La_law_649 (lv_at hl 5 rfl) ?_
                refine lv_iconst (v := nI 1) hx hb d_La_law_651 (by decide +kernel) ?_
                refine lv_iadd hx hb d_La_law_652 ?_
                refine aw_ti (nI_add (6 * t) 1) ?_
                refine va_sld hx hb hX hbl hbA hS (i := (nI ((6 * t) + 1))) (vp_in_nI (by omega) (by omega)) d_La_law_653 ?_
                refine aw_ti (y := nI j) (by rw [nI_clamp (by omega)]; exact hc0.symm) ?_
                refine lv_aload_n hx hb d_La_law_654 rfl (lv_at hl 1 rfl) ?_
                refine lv_iload hx hb d_La_law_655 (lv_at hl 5 rfl) ?_
                refine lv_iconst (v := nI 2) hx hb d_La_law_657 (by decide +kernel) ?_
                refine lv_iadd hx hb d_La_law_658 ?_
                refine aw_ti (nI_add (6 * t) 2) ?_
                refine va_sld hx hb hX hbl hbA hS (i := (nI ((6 * t) + 2))) (vp_in_nI (by omega) (by omega)) d_La_law_659 ?_
                refine aw_ti (y := s2) (by rw [nI_clamp (by omega)]; exact hs2.symm) ?_
                have hj282 : ∀ x283 : Int32, (if s2 = 0 then nI 0 else nI 1) = x283 → W p l e room_1 s m #[Value.ref b] below meth c H locs ((85 + t) + 1) ((1246 + 6 * t) + 6) (lw_Z below #[Value.ref b] s) (F0 m 668 ls [.int x283, .int (nI j), .ref (aw_m ad 0)]) := by
                  intro x283 ebx283
                  refine lv_aload_n hx hb d_La_law_668 rfl (lv_at hl 1 rfl) ?_
                  refine lv_iload hx hb d_La_law_669 (lv_at hl 5 rfl) ?_
                  refine lv_iconst (v := nI 3) hx hb d_La_law_671 (by decide +kernel) ?_
                  refine lv_iadd hx hb d_La_law_672 ?_
                  refine aw_ti (nI_add (6 * t) 3) ?_
                  refine va_sld hx hb hX hbl hbA hS (i := (nI ((6 * t) + 3))) (vp_in_nI (by omega) (by omega)) d_La_law_673 ?_
                  refine aw_ti (y := fr) (by rw [nI_clamp (by omega)]; exact hfr.symm) ?_
                  refine lv_aload_n hx hb d_La_law_674 rfl (lv_at hl 1 rfl) ?_
                  refine lv_iload hx hb d_La_law_675 (lv_at hl 5 rfl) ?_
                  refine lv_iconst (v := nI 4) hx hb d_La_law_677 (by decide +kernel) ?_
                  refine lv_iadd hx hb d_La_law_678 ?_
                  refine aw_ti (nI_add (6 * t) 4) ?_
                  refine va_sld hx hb hX hbl hbA hS (i := (nI ((6 * t) + 4))) (vp_in_nI (by omega) (by omega)) d_La_law_679 ?_
                  refine aw_ti (y := nI 0) (by rw [nI_clamp (by omega)]; exact hm0.symm) ?_
                  obtain ⟨_, he284⟩ := zr_M0 hSh
                  refine va_calli (va_runV (As := [.int (nI j), .int x283, .int fr, .int (nI 0)]) (rest := []) ⟨hx, hb, hml, hown, hG⟩ (k_Mo_feedXbV l D g ad N0 zG zO zX zY zA zB zM zI zL zK zN zF zQ j x283 fr (nI 0) hj hi) (aw_wV 4 hG gw_12_26 gw_12_23 gw_0_10 gw_12_24 gw_12_25 rfl rfl hd_Mo_feed ⟨Nat.le_of_ble_eq_true rfl, Nat.le_of_ble_eq_true rfl⟩) (ag_qV (va_recv hK hP rfl he284) hP hD hSh hU hS) rfl rfl hl.1 rfl (lv_room (Nat.le_of_ble_eq_true rfl)) d_La_law_680 ⟨by omega, by omega⟩) hS (fun _ _ h => h) (fun _ h => h) ?_
                  clear hP hD hSh hS he284
                  intro x285 u8 t8 H locs ht _ ex285 hB _ _ hS
                  obtain ⟨L, hP, hD, hSh⟩ := hB
                  rw [ht] at hP
                  clear ht
                  have ex285 := ex285.symm
                  refine lv_istore hx hb d_La_law_683 hl (by decide) rfl (fun ls hl => ?_)
                  have hl : lv_has ls 8 [(6, .int x285), (5, .int (nI 2)), (0, .ref b), (1, .ref (aw_r ad 0)), (2, .ref (aw_m ad 0)), (3, .ref (aw_o ad)), (4, .int (nI (6 * t)))] := hl
                  refine lv_goto (tgt := 837) hx hb d_La_law_685 (by decide) ?_
                  refine lv_iinc (k := 6) (v := nI (6 * t + 6)) hx hb d_La_law_837 hl rfl (aw_inc (6 * t) 6 6 (by decide +kernel)) (by decide) rfl (fun ls hl => ?_)
                  have hl : lv_has ls 8 [(4, .int (nI (6 * t + 6))), (6, .int x285), (5, .int (nI 2)), (0, .ref b), (1, .ref (aw_r ad 0)), (2, .ref (aw_m ad 0)), (3, .ref (aw_o ad))] := hl
                  refine lv_goto (tgt := 23) hx hb d_La_law_840 (by decide) ?_
                  have hl := lv_sub hl (l' := [(0, .ref b), (1, .ref (aw_r ad 0)), (2, .ref (aw_m ad 0)), (3, .ref (aw_o ad)), (4, .int (nI (6 * t + 6)))]) [3, 4, 5, 6, 0] rfl
                  refine W.widen (k := 85 + (t + 1)) (n := 1246 + 6 * (t + 1)) (by omega) (by omega) ?_
                  exact ih (t + 1) zG zO zX zY zA zB zM zI zL zK zN (nI 1) zQ _ _ L ls (by omega) hP hD hSh hR hS (by first | exact hl | simpa [Nat.mul_add] using hl)
                refine lv_if_eq (tgt := 667) hx hb d_La_law_660 (by decide) (fun h9 => ?_) (fun h9 => ?_)
                · refine lv_iconst (v := nI 0) hx hb d_La_law_667 (by decide +kernel) ?_
                  exact hj282 _ (if_pos h9)
                · refine lv_iconst (v := nI 1) hx hb d_La_law_663 (by decide +kernel) ?_
                  refine lv_goto (tgt := 668) hx hb d_La_law_664 (by decide) ?_
                  exact hj282 _ (if_neg h9)
              refine lv_if_eq (tgt := 628) hx hb d_La_law_621 (by decide) (fun h9 => ?_) (fun h9 => ?_)
              · refine lv_iconst (v := nI 0) hx hb d_La_law_628 (by decide +kernel) ?_
                exact hj279 _ (if_pos h9)
              · refine lv_iconst (v := nI 1) hx hb d_La_law_624 (by decide +kernel) ?_
                refine lv_goto (tgt := 629) hx hb d_La_law_625 (by decide) ?_
                exact hj279 _ (if_neg h9)
          · by_cases hs : (zG j).1 = 3
            · by_cases h5 : (zG j).2 = 5
              · refine lv_aload_n hx hb d_La_law_608 rfl (lv_at hl 1 rfl) ?_
                refine lv_aload_n hx hb d_La_law_609 rfl (lv_at hl 0 rfl) ?_
                refine lv_iload hx hb d_La_law_610 (lv_at hl 4 rfl) ?_
                refine lv_iconst (v := nI 1) hx hb d_La_law_612 (by decide +kernel) ?_
                refine lv_iadd hx hb d_La_law_613 ?_
                refine aw_ti (nI_add (6 * t) 1) ?_
                refine va_sld hx hb hX hbl hbA hS (i := (nI ((6 * t) + 1))) (vp_in_nI (by omega) (by omega)) d_La_law_614 ?_
                refine aw_ti (y := nI j) (by rw [nI_clamp (by omega)]; exact hc0.symm) ?_
                refine lv_aload_n hx hb d_La_law_615 rfl (lv_at hl 0 rfl) ?_
                refine lv_iload hx hb d_La_law_616 (lv_at hl 4 rfl) ?_
                refine lv_iconst (v := nI 2) hx hb d_La_law_618 (by decide +kernel) ?_
                refine lv_iadd hx hb d_La_law_619 ?_
                refine aw_ti (nI_add (6 * t) 2) ?_
                refine va_sld hx hb hX hbl hbA hS (i := (nI ((6 * t) + 2))) (vp_in_nI (by omega) (by omega)) d_La_law_620 ?_
                refine aw_ti (y := s2) (by rw [nI_clamp (by omega)]; exact hs2.symm) ?_
                have hj286 : ∀ x287 : Int32, (if s2 = 0 then nI 0 else nI 1) = x287 → W p l e room_1 s m #[Value.ref b] below meth c H locs (85 + t) (1246 + 6 * t) (lw_Z below #[Value.ref b] s) (F0 m 629 ls [.int x287, .int (nI j), .ref (aw_r ad 0)]) := by
                  intro x287 ebx287
                  refine lv_aload_n hx hb d_La_law_629 rfl (lv_at hl 0 rfl) ?_
                  refine lv_iload hx hb d_La_law_630 (lv_at hl 4 rfl) ?_
                  refine lv_iconst (v := nI 3) hx hb d_La_law_632 (by decide +kernel) ?_
                  refine lv_iadd hx hb d_La_law_633 ?_
                  refine aw_ti (nI_add (6 * t) 3) ?_
                  refine va_sld hx hb hX hbl hbA hS (i := (nI ((6 * t) + 3))) (vp_in_nI (by omega) (by omega)) d_La_law_634 ?_
                  refine aw_ti (y := nI k) (by rw [nI_clamp (by omega)]; exact hfr.symm) ?_
                  refine lv_aload_n hx hb d_La_law_635 rfl (lv_at hl 0 rfl) ?_
                  refine lv_iload hx hb d_La_law_636 (lv_at hl 4 rfl) ?_
                  refine lv_iconst (v := nI 4) hx hb d_La_law_638 (by decide +kernel) ?_
                  refine lv_iadd hx hb d_La_law_639 ?_
                  refine aw_ti (nI_add (6 * t) 4) ?_
                  refine va_sld hx hb hX hbl hbA hS (i := (nI ((6 * t) + 4))) (vp_in_nI (by omega) (by omega)) d_La_law_640 ?_
                  refine aw_ti (y := nI 0) (by rw [nI_clamp (by omega)]; exact hm0.symm) ?_
                  refine lv_aload_n hx hb d_La_law_641 rfl (lv_at hl 3 rfl) ?_
                  refine va_calli (vx_runSW (As := [.ref (aw_r ad 0), .int (nI j), .int x287, .int (nI k), .int (nI 0), .ref (aw_o ad)]) (rest := []) ⟨hx, hb, hml, hown, hG⟩ (k_La_feedXs0V l hst D g ad N0 zG zO zX zY zA zB zM zI zL zK zN zF zQ j x287 (nI k) hj (by omega)) (aw_wW 6 hG gw_7_42 gw_7_40 gw_0_0 gw_7_41 rfl rfl hd_La_feed ⟨Nat.le_of_ble_eq_true rfl, Nat.le_of_ble_eq_true rfl⟩) (ag_qS hP hD hSh hU hS) rfl rfl hl.1 rfl (lv_room (Nat.le_of_ble_eq_true rfl)) d_La_law_642 ⟨by omega, by omega⟩) hS (fun _ _ h => h) (fun _ h => h) ?_
                  clear hP hD hSh hS
                  intro x288 u8 t8 H locs ht _ ex288 hB _ _ hS
                  obtain ⟨L, hP, hD, hSh⟩ := hB
                  rw [ht] at hP
                  clear ht
                  subst ex288
                  refine lv_istore hx hb d_La_law_645 hl (by decide) rfl (fun ls hl => ?_)
                  have hl : lv_has ls 8 [(5, .int (nI 2)), (0, .ref b), (1, .ref (aw_r ad 0)), (2, .ref (aw_m ad 0)), (3, .ref (aw_o ad)), (4, .int (nI (6 * t)))] := hl
                  refine lv_aload_n hx hb d_La_law_647 rfl (lv_at hl 3 rfl) ?_
                  refine lv_aload_n hx hb d_La_law_648 rfl (lv_at hl 1 rfl) ?_
                  refine lv_iload hx hb d_La_law_649 (lv_at hl 5 rfl) ?_
                  refine lv_iconst (v := nI 1) hx hb d_La_law_651 (by decide +kernel) ?_
                  refine lv_iadd hx hb d_La_law_652 ?_
                  refine aw_ti (nI_add (6 * t) 1) ?_
                  refine va_sld hx hb hX hbl hbA hS (i := (nI ((6 * t) + 1))) (vp_in_nI (by omega) (by omega)) d_La_law_653 ?_
                  refine aw_ti (y := nI j) (by rw [nI_clamp (by omega)]; exact hc0.symm) ?_
                  refine lv_aload_n hx hb d_La_law_654 rfl (lv_at hl 1 rfl) ?_
                  refine lv_iload hx hb d_La_law_655 (lv_at hl 5 rfl) ?_
                  refine lv_iconst (v := nI 2) hx hb d_La_law_657 (by decide +kernel) ?_
                  refine lv_iadd hx hb d_La_law_658 ?_
                  refine aw_ti (nI_add (6 * t) 2) ?_
                  refine va_sld hx hb hX hbl hbA hS (i := (nI ((6 * t) + 2))) (vp_in_nI (by omega) (by omega)) d_La_law_659 ?_
                  refine aw_ti (y := s2) (by rw [nI_clamp (by omega)]; exact hs2.symm) ?_
                  have hj289 : ∀ x290 : Int32, (if s2 = 0 then nI 0 else nI 1) = x290 → W p l e room_1 s m #[Value.ref b] below meth c H locs ((85 + t) + 1) ((1246 + 6 * t) + 6) (lw_Z below #[Value.ref b] s) (F0 m 668 ls [.int x290, .int (nI j), .ref (aw_m ad 0)]) := by
                    intro x290 ebx290
                    refine lv_aload_n hx hb d_La_law_668 rfl (lv_at hl 1 rfl) ?_
                    refine lv_iload hx hb d_La_law_669 (lv_at hl 5 rfl) ?_
                    refine lv_iconst (v := nI 3) hx hb d_La_law_671 (by decide +kernel) ?_
                    refine lv_iadd hx hb d_La_law_672 ?_
                    refine aw_ti (nI_add (6 * t) 3) ?_
                    refine va_sld hx hb hX hbl hbA hS (i := (nI ((6 * t) + 3))) (vp_in_nI (by omega) (by omega)) d_La_law_673 ?_
                    refine aw_ti (y := nI k) (by rw [nI_clamp (by omega)]; exact hfr.symm) ?_
                    refine lv_aload_n hx hb d_La_law_674 rfl (lv_at hl 1 rfl) ?_
                    refine lv_iload hx hb d_La_law_675 (lv_at hl 5 rfl) ?_
                    refine lv_iconst (v := nI 4) hx hb d_La_law_677 (by decide +kernel) ?_
                    refine lv_iadd hx hb d_La_law_678 ?_
                    refine aw_ti (nI_add (6 * t) 4) ?_
                    refine va_sld hx hb hX hbl hbA hS (i := (nI ((6 * t) + 4))) (vp_in_nI (by omega) (by omega)) d_La_law_679 ?_
                    refine aw_ti (y := nI 0) (by rw [nI_clamp (by omega)]; exact hm0.symm) ?_
                    obtain ⟨_, he291⟩ := zr_M0 hSh
                    refine va_calli (va_runV (As := [.int (nI j), .int x290, .int (nI k), .int (nI 0)]) (rest := []) ⟨hx, hb, hml, hown, hG⟩ (k_Mo_feedXsV l D g ad N0 zG zO zX zY zA zB zM zI zL zK zN zF zQ j x290 k 0 hj (by omega) (by omega)) (aw_wV 4 hG gw_12_26 gw_12_23 gw_0_10 gw_12_24 gw_12_25 rfl rfl hd_Mo_feed ⟨Nat.le_of_ble_eq_true rfl, Nat.le_of_ble_eq_true rfl⟩) (ag_qV (va_recv hK hP rfl he291) hP hD hSh hU hS) rfl rfl hl.1 rfl (lv_room (Nat.le_of_ble_eq_true rfl)) d_La_law_680 ⟨by omega, by omega⟩) hS (fun _ _ h => h) (fun _ h => h) ?_
                    clear hP hD hSh hS he291
                    intro x292 u8 t8 H locs ht _ ex292 hB _ _ hS
                    obtain ⟨L, hP, hD, hSh⟩ := hB
                    rw [ht] at hP
                    clear ht
                    have ex292 := ex292.symm
                    refine lv_istore hx hb d_La_law_683 hl (by decide) rfl (fun ls hl => ?_)
                    have hl : lv_has ls 8 [(6, .int x292), (5, .int (nI 2)), (0, .ref b), (1, .ref (aw_r ad 0)), (2, .ref (aw_m ad 0)), (3, .ref (aw_o ad)), (4, .int (nI (6 * t)))] := hl
                    refine lv_goto (tgt := 837) hx hb d_La_law_685 (by decide) ?_
                    refine lv_iinc (k := 6) (v := nI (6 * t + 6)) hx hb d_La_law_837 hl rfl (aw_inc (6 * t) 6 6 (by decide +kernel)) (by decide) rfl (fun ls hl => ?_)
                    have hl : lv_has ls 8 [(4, .int (nI (6 * t + 6))), (6, .int x292), (5, .int (nI 2)), (0, .ref b), (1, .ref (aw_r ad 0)), (2, .ref (aw_m ad 0)), (3, .ref (aw_o ad))] := hl
                    refine lv_goto (tgt := 23) hx hb d_La_law_840 (by decide) ?_
                    have hl := lv_sub hl (l' := [(0, .ref b), (1, .ref (aw_r ad 0)), (2, .ref (aw_m ad 0)), (3, .ref (aw_o ad)), (4, .int (nI (6 * t + 6)))]) [3, 4, 5, 6, 0] rfl
                    refine W.widen (k := 85 + (t + 1)) (n := 1246 + 6 * (t + 1)) (by omega) (by omega) ?_
                    exact ih (t + 1) zG zO zX zY zA zB zM zI zL zK zN (nI 2) zQ _ _ L ls (by omega) hP hD hSh hR hS (by first | exact hl | simpa [Nat.mul_add] using hl)
                  refine lv_if_eq (tgt := 667) hx hb d_La_law_660 (by decide) (fun h9 => ?_) (fun h9 => ?_)
                  · refine lv_iconst (v := nI 0) hx hb d_La_law_667 (by decide +kernel) ?_
                    exact hj289 _ (if_pos h9)
                  · refine lv_iconst (v := nI 1) hx hb d_La_law_663 (by decide +kernel) ?_
                    refine lv_goto (tgt := 668) hx hb d_La_law_664 (by decide) ?_
                    exact hj289 _ (if_neg h9)
                refine lv_if_eq (tgt := 628) hx hb d_La_law_621 (by decide) (fun h9 => ?_) (fun h9 => ?_)
                · refine lv_iconst (v := nI 0) hx hb d_La_law_628 (by decide +kernel) ?_
                  exact hj286 _ (if_pos h9)
                · refine lv_iconst (v := nI 1) hx hb d_La_law_624 (by decide +kernel) ?_
                  refine lv_goto (tgt := 629) hx hb d_La_law_625 (by decide) ?_
                  exact hj286 _ (if_neg h9)
              · by_cases hm : (zG j).2 ≤ 1
                · obtain ⟨kc, hkc, hci, hco⟩ := hR.2.1 j hj (by omega)
                  refine lv_aload_n hx hb d_La_law_608 rfl (lv_at hl 1 rfl) ?_
                  refine lv_aload_n hx hb d_La_law_609 rfl (lv_at hl 0 rfl) ?_
                  refine lv_iload hx hb d_La_law_610 (lv_at hl 4 rfl) ?_
                  refine lv_iconst (v := nI 1) hx hb d_La_law_612 (by decide +kernel) ?_
                  refine lv_iadd hx hb d_La_law_613 ?_
                  refine aw_ti (nI_add (6 * t) 1) ?_
                  refine va_sld hx hb hX hbl hbA hS (i := (nI ((6 * t) + 1))) (vp_in_nI (by omega) (by omega)) d_La_law_614 ?_
                  refine aw_ti (y := nI j) (by rw [nI_clamp (by omega)]; exact hc0.symm) ?_
                  refine lv_aload_n hx hb d_La_law_615 rfl (lv_at hl 0 rfl) ?_
                  refine lv_iload hx hb d_La_law_616 (lv_at hl 4 rfl) ?_
                  refine lv_iconst (v := nI 2) hx hb d_La_law_618 (by decide +kernel) ?_
                  refine lv_iadd hx hb d_La_law_619 ?_
                  refine aw_ti (nI_add (6 * t) 2) ?_
                  refine va_sld hx hb hX hbl hbA hS (i := (nI ((6 * t) + 2))) (vp_in_nI (by omega) (by omega)) d_La_law_620 ?_
                  refine aw_ti (y := s2) (by rw [nI_clamp (by omega)]; exact hs2.symm) ?_
                  have hj293 : ∀ x294 : Int32, (if s2 = 0 then nI 0 else nI 1) = x294 → W p l e room_1 s m #[Value.ref b] below meth c H locs (85 + t) (1246 + 6 * t) (lw_Z below #[Value.ref b] s) (F0 m 629 ls [.int x294, .int (nI j), .ref (aw_r ad 0)]) := by
                    intro x294 ebx294
                    refine lv_aload_n hx hb d_La_law_629 rfl (lv_at hl 0 rfl) ?_
                    refine lv_iload hx hb d_La_law_630 (lv_at hl 4 rfl) ?_
                    refine lv_iconst (v := nI 3) hx hb d_La_law_632 (by decide +kernel) ?_
                    refine lv_iadd hx hb d_La_law_633 ?_
                    refine aw_ti (nI_add (6 * t) 3) ?_
                    refine va_sld hx hb hX hbl hbA hS (i := (nI ((6 * t) + 3))) (vp_in_nI (by omega) (by omega)) d_La_law_634 ?_
                    refine aw_ti (y := nI k) (by rw [nI_clamp (by omega)]; exact hfr.symm) ?_
                    refine lv_aload_n hx hb d_La_law_635 rfl (lv_at hl 0 rfl) ?_
                    refine lv_iload hx hb d_La_law_636 (lv_at hl 4 rfl) ?_
                    refine lv_iconst (v := nI 4) hx hb d_La_law_638 (by decide +kernel) ?_
                    refine lv_iadd hx hb d_La_law_639 ?_
                    refine aw_ti (nI_add (6 * t) 4) ?_
                    refine va_sld hx hb hX hbl hbA hS (i := (nI ((6 * t) + 4))) (vp_in_nI (by omega) (by omega)) d_La_law_640 ?_
                    refine aw_ti (y := nI 0) (by rw [nI_clamp (by omega)]; exact hm0.symm) ?_
                    refine lv_aload_n hx hb d_La_law_641 rfl (lv_at hl 3 rfl) ?_
                    refine va_calli (vx_runSW (As := [.ref (aw_r ad 0), .int (nI j), .int x294, .int (nI k), .int (nI 0), .ref (aw_o ad)]) (rest := []) ⟨hx, hb, hml, hown, hG⟩ (k_La_feed10bV l hst D g ad N0 zG zO zX zY zA zB zM zI zL zK zN zF zQ j x294 (nI k) hj (by omega) (by omega)) (aw_wW 6 hG gw_7_42 gw_7_40 gw_0_0 gw_7_41 rfl rfl hd_La_feed ⟨Nat.le_of_ble_eq_true rfl, Nat.le_of_ble_eq_true rfl⟩) (ag_qS hP hD hSh hU hS) rfl rfl hl.1 rfl (lv_room (Nat.le_of_ble_eq_true rfl)) d_La_law_642 ⟨by omega, by omega⟩) hS (fun _ _ h => h) (fun _ h => h) ?_
                    clear hP hD hSh hS
                    intro x295 u8 t8 H locs ht _ ex295 hB _ _ hS
                    obtain ⟨L, hP, hD, hSh⟩ := hB
                    rw [ht] at hP
                    clear ht
                    subst ex295
                    obtain ⟨zY296, ezY296⟩ : ∃ z : Nat → Nat → Int32, v_La_feed10bV_zY zY j = z := ⟨_, rfl⟩
                    rw [ezY296] at hSh
                    obtain ⟨zQ297, ezQ297⟩ : ∃ z : Int64, v_La_feed10bV_zQ zY j = z := ⟨_, rfl⟩
                    rw [ezQ297] at hSh
                    refine lv_istore hx hb d_La_law_645 hl (by decide) rfl (fun ls hl => ?_)
                    have hl : lv_has ls 8 [(5, .int (nI 0)), (0, .ref b), (1, .ref (aw_r ad 0)), (2, .ref (aw_m ad 0)), (3, .ref (aw_o ad)), (4, .int (nI (6 * t)))] := hl
                    refine lv_aload_n hx hb d_La_law_647 rfl (lv_at hl 3 rfl) ?_
                    refine lv_aload_n hx hb d_La_law_648 rfl (lv_at hl 1 rfl) ?_
                    refine lv_iload hx hb d_La_law_649 (lv_at hl 5 rfl) ?_
                    refine lv_iconst (v := nI 1) hx hb d_La_law_651 (by decide +kernel) ?_
                    refine lv_iadd hx hb d_La_law_652 ?_
                    refine aw_ti (nI_add (6 * t) 1) ?_
                    refine va_sld hx hb hX hbl hbA hS (i := (nI ((6 * t) + 1))) (vp_in_nI (by omega) (by omega)) d_La_law_653 ?_
                    refine aw_ti (y := nI j) (by rw [nI_clamp (by omega)]; exact hc0.symm) ?_
                    refine lv_aload_n hx hb d_La_law_654 rfl (lv_at hl 1 rfl) ?_
                    refine lv_iload hx hb d_La_law_655 (lv_at hl 5 rfl) ?_
                    refine lv_iconst (v := nI 2) hx hb d_La_law_657 (by decide +kernel) ?_
                    refine lv_iadd hx hb d_La_law_658 ?_
                    refine aw_ti (nI_add (6 * t) 2) ?_
                    refine va_sld hx hb hX hbl hbA hS (i := (nI ((6 * t) + 2))) (vp_in_nI (by omega) (by omega)) d_La_law_659 ?_
                    refine aw_ti (y := s2) (by rw [nI_clamp (by omega)]; exact hs2.symm) ?_
                    have hj298 : ∀ x299 : Int32, (if s2 = 0 then nI 0 else nI 1) = x299 → W p l e room_1 s m #[Value.ref b] below meth c H locs ((85 + t) + 1) ((1246 + 6 * t) + 6) (lw_Z below #[Value.ref b] s) (F0 m 668 ls [.int x299, .int (nI j), .ref (aw_m ad 0)]) := by
                      intro x299 ebx299
                      refine lv_aload_n hx hb d_La_law_668 rfl (lv_at hl 1 rfl) ?_
                      refine lv_iload hx hb d_La_law_669 (lv_at hl 5 rfl) ?_
                      refine lv_iconst (v := nI 3) hx hb d_La_law_671 (by decide +kernel) ?_
                      refine lv_iadd hx hb d_La_law_672 ?_
                      refine aw_ti (nI_add (6 * t) 3) ?_
                      refine va_sld hx hb hX hbl hbA hS (i := (nI ((6 * t) + 3))) (vp_in_nI (by omega) (by omega)) d_La_law_673 ?_
                      refine aw_ti (y := nI k) (by rw [nI_clamp (by omega)]; exact hfr.symm) ?_
                      refine lv_aload_n hx hb d_La_law_674 rfl (lv_at hl 1 rfl) ?_
                      refine lv_iload hx hb d_La_law_675 (lv_at hl 5 rfl) ?_
                      refine lv_iconst (v := nI 4) hx hb d_La_law_677 (by decide +kernel) ?_
                      refine lv_iadd hx hb d_La_law_678 ?_
                      refine aw_ti (nI_add (6 * t) 4) ?_
                      refine va_sld hx hb hX hbl hbA hS (i := (nI ((6 * t) + 4))) (vp_in_nI (by omega) (by omega)) d_La_law_679 ?_
                      refine aw_ti (y := nI 0) (by rw [nI_clamp (by omega)]; exact hm0.symm) ?_
                      obtain ⟨_, he300⟩ := zr_M0 hSh
                      refine va_calli (va_runV (As := [.int (nI j), .int x299, .int (nI k), .int (nI 0)]) (rest := []) ⟨hx, hb, hml, hown, hG⟩ (k_Mo_feed8V l D g ad N0 zG zO zX zY296 zA zB zM zI zL zK zN zF zQ297 j kc x299 k 0 hj (by omega) (by omega) (by omega) (by omega) hkc hci) (aw_wV 4 hG gw_12_26 gw_12_23 gw_0_10 gw_12_24 gw_12_25 rfl rfl hd_Mo_feed ⟨Nat.le_of_ble_eq_true rfl, Nat.le_of_ble_eq_true rfl⟩) (ag_qV (va_recv hK hP rfl he300) hP hD hSh hU hS) rfl rfl hl.1 rfl (lv_room (Nat.le_of_ble_eq_true rfl)) d_La_law_680 ⟨by omega, by omega⟩) hS (fun _ _ h => h) (fun _ h => h) ?_
                      clear hP hD hSh hS he300
                      intro x301 u8 t8 H locs ht _ ex301 hB _ _ hS
                      obtain ⟨L, hP, hD, hSh⟩ := hB
                      rw [ht] at hP
                      clear ht
                      obtain ⟨zI302, ezI302⟩ : ∃ z : Nat → Nat → Int32, v_Mo_feed8V_zI zM zI zL j kc x299 k 0 = z := ⟨_, rfl⟩
                      rw [ezI302] at hSh
                      obtain ⟨zL303, ezL303⟩ : ∃ z : Nat → Nat → Int64, v_Mo_feed8V_zL zM zI zL j kc x299 k 0 = z := ⟨_, rfl⟩
                      rw [ezL303] at hSh
                      have ex301 := ex301.symm
                      refine lv_istore hx hb d_La_law_683 hl (by decide) rfl (fun ls hl => ?_)
                      have hl : lv_has ls 8 [(6, .int x301), (5, .int (nI 0)), (0, .ref b), (1, .ref (aw_r ad 0)), (2, .ref (aw_m ad 0)), (3, .ref (aw_o ad)), (4, .int (nI (6 * t)))] := hl
                      refine lv_goto (tgt := 837) hx hb d_La_law_685 (by decide) ?_
                      refine lv_iinc (k := 6) (v := nI (6 * t + 6)) hx hb d_La_law_837 hl rfl (aw_inc (6 * t) 6 6 (by decide +kernel)) (by decide) rfl (fun ls hl => ?_)
                      have hl : lv_has ls 8 [(4, .int (nI (6 * t + 6))), (6, .int x301), (5, .int (nI 0)), (0, .ref b), (1, .ref (aw_r ad 0)), (2, .ref (aw_m ad 0)), (3, .ref (aw_o ad))] := hl
                      refine lv_goto (tgt := 23) hx hb d_La_law_840 (by decide) ?_
                      have hl := lv_sub hl (l' := [(0, .ref b), (1, .ref (aw_r ad 0)), (2, .ref (aw_m ad 0)), (3, .ref (aw_o ad)), (4, .int (nI (6 * t + 6)))]) [3, 4, 5, 6, 0] rfl
                      refine W.widen (k := 85 + (t + 1)) (n := 1246 + 6 * (t + 1)) (by omega) (by omega) ?_
                      have hR : az_R zG zO zX zY296 zA zB zM zI302 zL303 := by
                        subst ex301 ezL303 ezI302 ebx299 ezQ297 ezY296 ebx294
                        exact r_feed10b_8 hR hj hs hm hk hkc hci hco
                      exact ih (t + 1) zG zO zX zY296 zA zB zM zI302 zL303 (nI kc) (az_wn kc) (nI 0) zQ297 _ _ L ls (by omega) hP hD hSh hR hS (by first | exact hl | simpa [Nat.mul_add] using hl)
                    refine lv_if_eq (tgt := 667) hx hb d_La_law_660 (by decide) (fun h9 => ?_) (fun h9 => ?_)
                    · refine lv_iconst (v := nI 0) hx hb d_La_law_667 (by decide +kernel) ?_
                      exact hj298 _ (if_pos h9)
                    · refine lv_iconst (v := nI 1) hx hb d_La_law_663 (by decide +kernel) ?_
                      refine lv_goto (tgt := 668) hx hb d_La_law_664 (by decide) ?_
                      exact hj298 _ (if_neg h9)
                  refine lv_if_eq (tgt := 628) hx hb d_La_law_621 (by decide) (fun h9 => ?_) (fun h9 => ?_)
                  · refine lv_iconst (v := nI 0) hx hb d_La_law_628 (by decide +kernel) ?_
                    exact hj293 _ (if_pos h9)
                  · refine lv_iconst (v := nI 1) hx hb d_La_law_624 (by decide +kernel) ?_
                    refine lv_goto (tgt := 629) hx hb d_La_law_625 (by decide) ?_
                    exact hj293 _ (if_neg h9)
                · obtain ⟨kc, hkc, hci, hco⟩ := hR.2.1 j hj (by omega)
                  refine lv_aload_n hx hb d_La_law_608 rfl (lv_at hl 1 rfl) ?_
                  refine lv_aload_n hx hb d_La_law_609 rfl (lv_at hl 0 rfl) ?_
                  refine lv_iload hx hb d_La_law_610 (lv_at hl 4 rfl) ?_
                  refine lv_iconst (v := nI 1) hx hb d_La_law_612 (by decide +kernel) ?_
                  refine lv_iadd hx hb d_La_law_613 ?_
                  refine aw_ti (nI_add (6 * t) 1) ?_
                  refine va_sld hx hb hX hbl hbA hS (i := (nI ((6 * t) + 1))) (vp_in_nI (by omega) (by omega)) d_La_law_614 ?_
                  refine aw_ti (y := nI j) (by rw [nI_clamp (by omega)]; exact hc0.symm) ?_
                  refine lv_aload_n hx hb d_La_law_615 rfl (lv_at hl 0 rfl) ?_
                  refine lv_iload hx hb d_La_law_616 (lv_at hl 4 rfl) ?_
                  refine lv_iconst (v := nI 2) hx hb d_La_law_618 (by decide +kernel) ?_
                  refine lv_iadd hx hb d_La_law_619 ?_
                  refine aw_ti (nI_add (6 * t) 2) ?_
                  refine va_sld hx hb hX hbl hbA hS (i := (nI ((6 * t) + 2))) (vp_in_nI (by omega) (by omega)) d_La_law_620 ?_
                  refine aw_ti (y := s2) (by rw [nI_clamp (by omega)]; exact hs2.symm) ?_
                  have hj304 : ∀ x305 : Int32, (if s2 = 0 then nI 0 else nI 1) = x305 → W p l e room_1 s m #[Value.ref b] below meth c H locs (85 + t) (1246 + 6 * t) (lw_Z below #[Value.ref b] s) (F0 m 629 ls [.int x305, .int (nI j), .ref (aw_r ad 0)]) := by
                    intro x305 ebx305
                    refine lv_aload_n hx hb d_La_law_629 rfl (lv_at hl 0 rfl) ?_
                    refine lv_iload hx hb d_La_law_630 (lv_at hl 4 rfl) ?_
                    refine lv_iconst (v := nI 3) hx hb d_La_law_632 (by decide +kernel) ?_
                    refine lv_iadd hx hb d_La_law_633 ?_
                    refine aw_ti (nI_add (6 * t) 3) ?_
                    refine va_sld hx hb hX hbl hbA hS (i := (nI ((6 * t) + 3))) (vp_in_nI (by omega) (by omega)) d_La_law_634 ?_
                    refine aw_ti (y := nI k) (by rw [nI_clamp (by omega)]; exact hfr.symm) ?_
                    refine lv_aload_n hx hb d_La_law_635 rfl (lv_at hl 0 rfl) ?_
                    refine lv_iload hx hb d_La_law_636 (lv_at hl 4 rfl) ?_
                    refine lv_iconst (v := nI 4) hx hb d_La_law_638 (by decide +kernel) ?_
                    refine lv_iadd hx hb d_La_law_639 ?_
                    refine aw_ti (nI_add (6 * t) 4) ?_
                    refine va_sld hx hb hX hbl hbA hS (i := (nI ((6 * t) + 4))) (vp_in_nI (by omega) (by omega)) d_La_law_640 ?_
                    refine aw_ti (y := nI 0) (by rw [nI_clamp (by omega)]; exact hm0.symm) ?_
                    refine lv_aload_n hx hb d_La_law_641 rfl (lv_at hl 3 rfl) ?_
                    refine va_calli (vx_runSW (As := [.ref (aw_r ad 0), .int (nI j), .int x305, .int (nI k), .int (nI 0), .ref (aw_o ad)]) (rest := []) ⟨hx, hb, hml, hown, hG⟩ (k_La_feed10V l hst D g ad N0 zG zO zX zY zA zB zM zI zL zK zN zF zQ j x305 (nI k) hj (by omega) (by omega) (by omega)) (aw_wW 6 hG gw_7_42 gw_7_40 gw_0_0 gw_7_41 rfl rfl hd_La_feed ⟨Nat.le_of_ble_eq_true rfl, Nat.le_of_ble_eq_true rfl⟩) (ag_qS hP hD hSh hU hS) rfl rfl hl.1 rfl (lv_room (Nat.le_of_ble_eq_true rfl)) d_La_law_642 ⟨by omega, by omega⟩) hS (fun _ _ h => h) (fun _ h => h) ?_
                    clear hP hD hSh hS
                    intro x306 u8 t8 H locs ht _ ex306 hB _ _ hS
                    obtain ⟨L, hP, hD, hSh⟩ := hB
                    rw [ht] at hP
                    clear ht
                    subst ex306
                    obtain ⟨zY307, ezY307⟩ : ∃ z : Nat → Nat → Int32, v_La_feed10V_zY zY j = z := ⟨_, rfl⟩
                    rw [ezY307] at hSh
                    obtain ⟨zQ308, ezQ308⟩ : ∃ z : Int64, v_La_feed10V_zQ zY j = z := ⟨_, rfl⟩
                    rw [ezQ308] at hSh
                    refine lv_istore hx hb d_La_law_645 hl (by decide) rfl (fun ls hl => ?_)
                    have hl : lv_has ls 8 [(5, .int (nI 0)), (0, .ref b), (1, .ref (aw_r ad 0)), (2, .ref (aw_m ad 0)), (3, .ref (aw_o ad)), (4, .int (nI (6 * t)))] := hl
                    refine lv_aload_n hx hb d_La_law_647 rfl (lv_at hl 3 rfl) ?_
                    refine lv_aload_n hx hb d_La_law_648 rfl (lv_at hl 1 rfl) ?_
                    refine lv_iload hx hb d_La_law_649 (lv_at hl 5 rfl) ?_
                    refine lv_iconst (v := nI 1) hx hb d_La_law_651 (by decide +kernel) ?_
                    refine lv_iadd hx hb d_La_law_652 ?_
                    refine aw_ti (nI_add (6 * t) 1) ?_
                    refine va_sld hx hb hX hbl hbA hS (i := (nI ((6 * t) + 1))) (vp_in_nI (by omega) (by omega)) d_La_law_653 ?_
                    refine aw_ti (y := nI j) (by rw [nI_clamp (by omega)]; exact hc0.symm) ?_
                    refine lv_aload_n hx hb d_La_law_654 rfl (lv_at hl 1 rfl) ?_
                    refine lv_iload hx hb d_La_law_655 (lv_at hl 5 rfl) ?_
                    refine lv_iconst (v := nI 2) hx hb d_La_law_657 (by decide +kernel) ?_
                    refine lv_iadd hx hb d_La_law_658 ?_
                    refine aw_ti (nI_add (6 * t) 2) ?_
                    refine va_sld hx hb hX hbl hbA hS (i := (nI ((6 * t) + 2))) (vp_in_nI (by omega) (by omega)) d_La_law_659 ?_
                    refine aw_ti (y := s2) (by rw [nI_clamp (by omega)]; exact hs2.symm) ?_
                    have hj309 : ∀ x310 : Int32, (if s2 = 0 then nI 0 else nI 1) = x310 → W p l e room_1 s m #[Value.ref b] below meth c H locs ((85 + t) + 1) ((1246 + 6 * t) + 6) (lw_Z below #[Value.ref b] s) (F0 m 668 ls [.int x310, .int (nI j), .ref (aw_m ad 0)]) := by
                      intro x310 ebx310
                      refine lv_aload_n hx hb d_La_law_668 rfl (lv_at hl 1 rfl) ?_
                      refine lv_iload hx hb d_La_law_669 (lv_at hl 5 rfl) ?_
                      refine lv_iconst (v := nI 3) hx hb d_La_law_671 (by decide +kernel) ?_
                      refine lv_iadd hx hb d_La_law_672 ?_
                      refine aw_ti (nI_add (6 * t) 3) ?_
                      refine va_sld hx hb hX hbl hbA hS (i := (nI ((6 * t) + 3))) (vp_in_nI (by omega) (by omega)) d_La_law_673 ?_
                      refine aw_ti (y := nI k) (by rw [nI_clamp (by omega)]; exact hfr.symm) ?_
                      refine lv_aload_n hx hb d_La_law_674 rfl (lv_at hl 1 rfl) ?_
                      refine lv_iload hx hb d_La_law_675 (lv_at hl 5 rfl) ?_
                      refine lv_iconst (v := nI 4) hx hb d_La_law_677 (by decide +kernel) ?_
                      refine lv_iadd hx hb d_La_law_678 ?_
                      refine aw_ti (nI_add (6 * t) 4) ?_
                      refine va_sld hx hb hX hbl hbA hS (i := (nI ((6 * t) + 4))) (vp_in_nI (by omega) (by omega)) d_La_law_679 ?_
                      refine aw_ti (y := nI 0) (by rw [nI_clamp (by omega)]; exact hm0.symm) ?_
                      obtain ⟨_, he311⟩ := zr_M0 hSh
                      refine va_calli (va_runV (As := [.int (nI j), .int x310, .int (nI k), .int (nI 0)]) (rest := []) ⟨hx, hb, hml, hown, hG⟩ (k_Mo_feed1V l D g ad N0 zG zO zX zY307 zA zB zM zI zL zK zN zF zQ308 j kc x310 k 0 hj (by omega) (by omega) (by omega) (by omega) hkc hci) (aw_wV 4 hG gw_12_26 gw_12_23 gw_0_10 gw_12_24 gw_12_25 rfl rfl hd_Mo_feed ⟨Nat.le_of_ble_eq_true rfl, Nat.le_of_ble_eq_true rfl⟩) (ag_qV (va_recv hK hP rfl he311) hP hD hSh hU hS) rfl rfl hl.1 rfl (lv_room (Nat.le_of_ble_eq_true rfl)) d_La_law_680 ⟨by omega, by omega⟩) hS (fun _ _ h => h) (fun _ h => h) ?_
                      clear hP hD hSh hS he311
                      intro x312 u8 t8 H locs ht _ ex312 hB _ _ hS
                      obtain ⟨L, hP, hD, hSh⟩ := hB
                      rw [ht] at hP
                      clear ht
                      obtain ⟨zI313, ezI313⟩ : ∃ z : Nat → Nat → Int32, v_Mo_feed1V_zI zM zI zL j kc x310 k 0 = z := ⟨_, rfl⟩
                      rw [ezI313] at hSh
                      obtain ⟨zL314, ezL314⟩ : ∃ z : Nat → Nat → Int64, v_Mo_feed1V_zL zM zI zL j kc x310 k 0 = z := ⟨_, rfl⟩
                      rw [ezL314] at hSh
                      have ex312 := ex312.symm
                      refine lv_istore hx hb d_La_law_683 hl (by decide) rfl (fun ls hl => ?_)
                      have hl : lv_has ls 8 [(6, .int x312), (5, .int (nI 0)), (0, .ref b), (1, .ref (aw_r ad 0)), (2, .ref (aw_m ad 0)), (3, .ref (aw_o ad)), (4, .int (nI (6 * t)))] := hl
                      refine lv_goto (tgt := 837) hx hb d_La_law_685 (by decide) ?_
                      refine lv_iinc (k := 6) (v := nI (6 * t + 6)) hx hb d_La_law_837 hl rfl (aw_inc (6 * t) 6 6 (by decide +kernel)) (by decide) rfl (fun ls hl => ?_)
                      have hl : lv_has ls 8 [(4, .int (nI (6 * t + 6))), (6, .int x312), (5, .int (nI 0)), (0, .ref b), (1, .ref (aw_r ad 0)), (2, .ref (aw_m ad 0)), (3, .ref (aw_o ad))] := hl
                      refine lv_goto (tgt := 23) hx hb d_La_law_840 (by decide) ?_
                      have hl := lv_sub hl (l' := [(0, .ref b), (1, .ref (aw_r ad 0)), (2, .ref (aw_m ad 0)), (3, .ref (aw_o ad)), (4, .int (nI (6 * t + 6)))]) [3, 4, 5, 6, 0] rfl
                      refine W.widen (k := 85 + (t + 1)) (n := 1246 + 6 * (t + 1)) (by omega) (by omega) ?_
                      have hR : az_R zG zO zX zY307 zA zB zM zI313 zL314 := by
                        subst ex312 ezL314 ezI313 ebx310 ezQ308 ezY307 ebx305
                        exact r_feed10_1 hR hj hs (by omega) (by omega) hk hkc hci hco
                      exact ih (t + 1) zG zO zX zY307 zA zB zM zI313 zL314 (nI kc) (az_wn kc) (nI 0) zQ308 _ _ L ls (by omega) hP hD hSh hR hS (by first | exact hl | simpa [Nat.mul_add] using hl)
                    refine lv_if_eq (tgt := 667) hx hb d_La_law_660 (by decide) (fun h9 => ?_) (fun h9 => ?_)
                    · refine lv_iconst (v := nI 0) hx hb d_La_law_667 (by decide +kernel) ?_
                      exact hj309 _ (if_pos h9)
                    · refine lv_iconst (v := nI 1) hx hb d_La_law_663 (by decide +kernel) ?_
                      refine lv_goto (tgt := 668) hx hb d_La_law_664 (by decide) ?_
                      exact hj309 _ (if_neg h9)
                  refine lv_if_eq (tgt := 628) hx hb d_La_law_621 (by decide) (fun h9 => ?_) (fun h9 => ?_)
                  · refine lv_iconst (v := nI 0) hx hb d_La_law_628 (by decide +kernel) ?_
                    exact hj304 _ (if_pos h9)
                  · refine lv_iconst (v := nI 1) hx hb d_La_law_624 (by decide +kernel) ?_
                    refine lv_goto (tgt := 629) hx hb d_La_law_625 (by decide) ?_
                    exact hj304 _ (if_neg h9)
            · refine lv_aload_n hx hb d_La_law_608 rfl (lv_at hl 1 rfl) ?_
              refine lv_aload_n hx hb d_La_law_609 rfl (lv_at hl 0 rfl) ?_
              refine lv_iload hx hb d_La_law_610 (lv_at hl 4 rfl) ?_
              refine lv_iconst (v := nI 1) hx hb d_La_law_612 (by decide +kernel) ?_
              refine lv_iadd hx hb d_La_law_613 ?_
              refine aw_ti (nI_add (6 * t) 1) ?_
              refine va_sld hx hb hX hbl hbA hS (i := (nI ((6 * t) + 1))) (vp_in_nI (by omega) (by omega)) d_La_law_614 ?_
              refine aw_ti (y := nI j) (by rw [nI_clamp (by omega)]; exact hc0.symm) ?_
              refine lv_aload_n hx hb d_La_law_615 rfl (lv_at hl 0 rfl) ?_
              refine lv_iload hx hb d_La_law_616 (lv_at hl 4 rfl) ?_
              refine lv_iconst (v := nI 2) hx hb d_La_law_618 (by decide +kernel) ?_
              refine lv_iadd hx hb d_La_law_619 ?_
              refine aw_ti (nI_add (6 * t) 2) ?_
              refine va_sld hx hb hX hbl hbA hS (i := (nI ((6 * t) + 2))) (vp_in_nI (by omega) (by omega)) d_La_law_620 ?_
              refine aw_ti (y := s2) (by rw [nI_clamp (by omega)]; exact hs2.symm) ?_
              have hj315 : ∀ x316 : Int32, (if s2 = 0 then nI 0 else nI 1) = x316 → W p l e room_1 s m #[Value.ref b] below meth c H locs (85 + t) (1246 + 6 * t) (lw_Z below #[Value.ref b] s) (F0 m 629 ls [.int x316, .int (nI j), .ref (aw_r ad 0)]) := by
                intro x316 ebx316
                refine lv_aload_n hx hb d_La_law_629 rfl (lv_at hl 0 rfl) ?_
                refine lv_iload hx hb d_La_law_630 (lv_at hl 4 rfl) ?_
                refine lv_iconst (v := nI 3) hx hb d_La_law_632 (by decide +kernel) ?_
                refine lv_iadd hx hb d_La_law_633 ?_
                refine aw_ti (nI_add (6 * t) 3) ?_
                refine va_sld hx hb hX hbl hbA hS (i := (nI ((6 * t) + 3))) (vp_in_nI (by omega) (by omega)) d_La_law_634 ?_
                refine aw_ti (y := nI k) (by rw [nI_clamp (by omega)]; exact hfr.symm) ?_
                refine lv_aload_n hx hb d_La_law_635 rfl (lv_at hl 0 rfl) ?_
                refine lv_iload hx hb d_La_law_636 (lv_at hl 4 rfl) ?_
                refine lv_iconst (v := nI 4) hx hb d_La_law_638 (by decide +kernel) ?_
                refine lv_iadd hx hb d_La_law_639 ?_
                refine aw_ti (nI_add (6 * t) 4) ?_
                refine va_sld hx hb hX hbl hbA hS (i := (nI ((6 * t) + 4))) (vp_in_nI (by omega) (by omega)) d_La_law_640 ?_
                refine aw_ti (y := nI 0) (by rw [nI_clamp (by omega)]; exact hm0.symm) ?_
                refine lv_aload_n hx hb d_La_law_641 rfl (lv_at hl 3 rfl) ?_
                refine va_calli (vx_runSW (As := [.ref (aw_r ad 0), .int (nI j), .int x316, .int (nI k), .int (nI 0), .ref (aw_o ad)]) (rest := []) ⟨hx, hb, hml, hown, hG⟩ (k_La_feedXs0V l hst D g ad N0 zG zO zX zY zA zB zM zI zL zK zN zF zQ j x316 (nI k) hj (by omega)) (aw_wW 6 hG gw_7_42 gw_7_40 gw_0_0 gw_7_41 rfl rfl hd_La_feed ⟨Nat.le_of_ble_eq_true rfl, Nat.le_of_ble_eq_true rfl⟩) (ag_qS hP hD hSh hU hS) rfl rfl hl.1 rfl (lv_room (Nat.le_of_ble_eq_true rfl)) d_La_law_642 ⟨by omega, by omega⟩) hS (fun _ _ h => h) (fun _ h => h) ?_
                clear hP hD hSh hS
                intro x317 u8 t8 H locs ht _ ex317 hB _ _ hS
                obtain ⟨L, hP, hD, hSh⟩ := hB
                rw [ht] at hP
                clear ht
                subst ex317
                refine lv_istore hx hb d_La_law_645 hl (by decide) rfl (fun ls hl => ?_)
                have hl : lv_has ls 8 [(5, .int (nI 2)), (0, .ref b), (1, .ref (aw_r ad 0)), (2, .ref (aw_m ad 0)), (3, .ref (aw_o ad)), (4, .int (nI (6 * t)))] := hl
                refine lv_aload_n hx hb d_La_law_647 rfl (lv_at hl 3 rfl) ?_
                refine lv_aload_n hx hb d_La_law_648 rfl (lv_at hl 1 rfl) ?_
                refine lv_iload hx hb d_La_law_649 (lv_at hl 5 rfl) ?_
                refine lv_iconst (v := nI 1) hx hb d_La_law_651 (by decide +kernel) ?_
                refine lv_iadd hx hb d_La_law_652 ?_
                refine aw_ti (nI_add (6 * t) 1) ?_
                refine va_sld hx hb hX hbl hbA hS (i := (nI ((6 * t) + 1))) (vp_in_nI (by omega) (by omega)) d_La_law_653 ?_
                refine aw_ti (y := nI j) (by rw [nI_clamp (by omega)]; exact hc0.symm) ?_
                refine lv_aload_n hx hb d_La_law_654 rfl (lv_at hl 1 rfl) ?_
                refine lv_iload hx hb d_La_law_655 (lv_at hl 5 rfl) ?_
                refine lv_iconst (v := nI 2) hx hb d_La_law_657 (by decide +kernel) ?_
                refine lv_iadd hx hb d_La_law_658 ?_
                refine aw_ti (nI_add (6 * t) 2) ?_
                refine va_sld hx hb hX hbl hbA hS (i := (nI ((6 * t) + 2))) (vp_in_nI (by omega) (by omega)) d_La_law_659 ?_
                refine aw_ti (y := s2) (by rw [nI_clamp (by omega)]; exact hs2.symm) ?_
                have hj318 : ∀ x319 : Int32, (if s2 = 0 then nI 0 else nI 1) = x319 → W p l e room_1 s m #[Value.ref b] below meth c H locs ((85 + t) + 1) ((1246 + 6 * t) + 6) (lw_Z below #[Value.ref b] s) (F0 m 668 ls [.int x319, .int (nI j), .ref (aw_m ad 0)]) := by
                  intro x319 ebx319
                  refine lv_aload_n hx hb d_La_law_668 rfl (lv_at hl 1 rfl) ?_
                  refine lv_iload hx hb d_La_law_669 (lv_at hl 5 rfl) ?_
                  refine lv_iconst (v := nI 3) hx hb d_La_law_671 (by decide +kernel) ?_
                  refine lv_iadd hx hb d_La_law_672 ?_
                  refine aw_ti (nI_add (6 * t) 3) ?_
                  refine va_sld hx hb hX hbl hbA hS (i := (nI ((6 * t) + 3))) (vp_in_nI (by omega) (by omega)) d_La_law_673 ?_
                  refine aw_ti (y := nI k) (by rw [nI_clamp (by omega)]; exact hfr.symm) ?_
                  refine lv_aload_n hx hb d_La_law_674 rfl (lv_at hl 1 rfl) ?_
                  refine lv_iload hx hb d_La_law_675 (lv_at hl 5 rfl) ?_
                  refine lv_iconst (v := nI 4) hx hb d_La_law_677 (by decide +kernel) ?_
                  refine lv_iadd hx hb d_La_law_678 ?_
                  refine aw_ti (nI_add (6 * t) 4) ?_
                  refine va_sld hx hb hX hbl hbA hS (i := (nI ((6 * t) + 4))) (vp_in_nI (by omega) (by omega)) d_La_law_679 ?_
                  refine aw_ti (y := nI 0) (by rw [nI_clamp (by omega)]; exact hm0.symm) ?_
                  obtain ⟨_, he320⟩ := zr_M0 hSh
                  refine va_calli (va_runV (As := [.int (nI j), .int x319, .int (nI k), .int (nI 0)]) (rest := []) ⟨hx, hb, hml, hown, hG⟩ (k_Mo_feedXsV l D g ad N0 zG zO zX zY zA zB zM zI zL zK zN zF zQ j x319 k 0 hj (by omega) (by omega)) (aw_wV 4 hG gw_12_26 gw_12_23 gw_0_10 gw_12_24 gw_12_25 rfl rfl hd_Mo_feed ⟨Nat.le_of_ble_eq_true rfl, Nat.le_of_ble_eq_true rfl⟩) (ag_qV (va_recv hK hP rfl he320) hP hD hSh hU hS) rfl rfl hl.1 rfl (lv_room (Nat.le_of_ble_eq_true rfl)) d_La_law_680 ⟨by omega, by omega⟩) hS (fun _ _ h => h) (fun _ h => h) ?_
                  clear hP hD hSh hS he320
                  intro x321 u8 t8 H locs ht _ ex321 hB _ _ hS
                  obtain ⟨L, hP, hD, hSh⟩ := hB
                  rw [ht] at hP
                  clear ht
                  have ex321 := ex321.symm
                  refine lv_istore hx hb d_La_law_683 hl (by decide) rfl (fun ls hl => ?_)
                  have hl : lv_has ls 8 [(6, .int x321), (5, .int (nI 2)), (0, .ref b), (1, .ref (aw_r ad 0)), (2, .ref (aw_m ad 0)), (3, .ref (aw_o ad)), (4, .int (nI (6 * t)))] := hl
                  refine lv_goto (tgt := 837) hx hb d_La_law_685 (by decide) ?_
                  refine lv_iinc (k := 6) (v := nI (6 * t + 6)) hx hb d_La_law_837 hl rfl (aw_inc (6 * t) 6 6 (by decide +kernel)) (by decide) rfl (fun ls hl => ?_)
                  have hl : lv_has ls 8 [(4, .int (nI (6 * t + 6))), (6, .int x321), (5, .int (nI 2)), (0, .ref b), (1, .ref (aw_r ad 0)), (2, .ref (aw_m ad 0)), (3, .ref (aw_o ad))] := hl
                  refine lv_goto (tgt := 23) hx hb d_La_law_840 (by decide) ?_
                  have hl := lv_sub hl (l' := [(0, .ref b), (1, .ref (aw_r ad 0)), (2, .ref (aw_m ad 0)), (3, .ref (aw_o ad)), (4, .int (nI (6 * t + 6)))]) [3, 4, 5, 6, 0] rfl
                  refine W.widen (k := 85 + (t + 1)) (n := 1246 + 6 * (t + 1)) (by omega) (by omega) ?_
                  exact ih (t + 1) zG zO zX zY zA zB zM zI zL zK zN (nI 2) zQ _ _ L ls (by omega) hP hD hSh hR hS (by first | exact hl | simpa [Nat.mul_add] using hl)
                refine lv_if_eq (tgt := 667) hx hb d_La_law_660 (by decide) (fun h9 => ?_) (fun h9 => ?_)
                · refine lv_iconst (v := nI 0) hx hb d_La_law_667 (by decide +kernel) ?_
                  exact hj318 _ (if_pos h9)
                · refine lv_iconst (v := nI 1) hx hb d_La_law_663 (by decide +kernel) ?_
                  refine lv_goto (tgt := 668) hx hb d_La_law_664 (by decide) ?_
                  exact hj318 _ (if_neg h9)
              refine lv_if_eq (tgt := 628) hx hb d_La_law_621 (by decide) (fun h9 => ?_) (fun h9 => ?_)
              · refine lv_iconst (v := nI 0) hx hb d_La_law_628 (by decide +kernel) ?_
                exact hj315 _ (if_pos h9)
              · refine lv_iconst (v := nI 1) hx hb d_La_law_624 (by decide +kernel) ?_
                refine lv_goto (tgt := 629) hx hb d_La_law_625 (by decide) ?_
                exact hj315 _ (if_neg h9)
        · by_cases hs : (zG j).1 = 3
          · by_cases h5 : (zG j).2 = 5
            · refine lv_aload_n hx hb d_La_law_608 rfl (lv_at hl 1 rfl) ?_
              refine lv_aload_n hx hb d_La_law_609 rfl (lv_at hl 0 rfl) ?_
              refine lv_iload hx hb d_La_law_610 (lv_at hl 4 rfl) ?_
              refine lv_iconst (v := nI 1) hx hb d_La_law_612 (by decide +kernel) ?_
              refine lv_iadd hx hb d_La_law_613 ?_
              refine aw_ti (nI_add (6 * t) 1) ?_
              refine va_sld hx hb hX hbl hbA hS (i := (nI ((6 * t) + 1))) (vp_in_nI (by omega) (by omega)) d_La_law_614 ?_
              refine aw_ti (y := nI j) (by rw [nI_clamp (by omega)]; exact hc0.symm) ?_
              refine lv_aload_n hx hb d_La_law_615 rfl (lv_at hl 0 rfl) ?_
              refine lv_iload hx hb d_La_law_616 (lv_at hl 4 rfl) ?_
              refine lv_iconst (v := nI 2) hx hb d_La_law_618 (by decide +kernel) ?_
              refine lv_iadd hx hb d_La_law_619 ?_
              refine aw_ti (nI_add (6 * t) 2) ?_
              refine va_sld hx hb hX hbl hbA hS (i := (nI ((6 * t) + 2))) (vp_in_nI (by omega) (by omega)) d_La_law_620 ?_
              refine aw_ti (y := s2) (by rw [nI_clamp (by omega)]; exact hs2.symm) ?_
              have hj322 : ∀ x323 : Int32, (if s2 = 0 then nI 0 else nI 1) = x323 → W p l e room_1 s m #[Value.ref b] below meth c H locs (85 + t) (1246 + 6 * t) (lw_Z below #[Value.ref b] s) (F0 m 629 ls [.int x323, .int (nI j), .ref (aw_r ad 0)]) := by
                intro x323 ebx323
                refine lv_aload_n hx hb d_La_law_629 rfl (lv_at hl 0 rfl) ?_
                refine lv_iload hx hb d_La_law_630 (lv_at hl 4 rfl) ?_
                refine lv_iconst (v := nI 3) hx hb d_La_law_632 (by decide +kernel) ?_
                refine lv_iadd hx hb d_La_law_633 ?_
                refine aw_ti (nI_add (6 * t) 3) ?_
                refine va_sld hx hb hX hbl hbA hS (i := (nI ((6 * t) + 3))) (vp_in_nI (by omega) (by omega)) d_La_law_634 ?_
                refine aw_ti (y := nI k) (by rw [nI_clamp (by omega)]; exact hfr.symm) ?_
                refine lv_aload_n hx hb d_La_law_635 rfl (lv_at hl 0 rfl) ?_
                refine lv_iload hx hb d_La_law_636 (lv_at hl 4 rfl) ?_
                refine lv_iconst (v := nI 4) hx hb d_La_law_638 (by decide +kernel) ?_
                refine lv_iadd hx hb d_La_law_639 ?_
                refine aw_ti (nI_add (6 * t) 4) ?_
                refine va_sld hx hb hX hbl hbA hS (i := (nI ((6 * t) + 4))) (vp_in_nI (by omega) (by omega)) d_La_law_640 ?_
                refine aw_ti (y := nI mm) (by rw [nI_clamp (by omega)]; exact hm0.symm) ?_
                refine lv_aload_n hx hb d_La_law_641 rfl (lv_at hl 3 rfl) ?_
                refine va_calli (vx_runSW (As := [.ref (aw_r ad 0), .int (nI j), .int x323, .int (nI k), .int (nI mm), .ref (aw_o ad)]) (rest := []) ⟨hx, hb, hml, hown, hG⟩ (k_La_feedXs1V l hst D g ad N0 zG zO zX zY zA zB zM zI zL zK zN zF zQ j x323 k mm hj (by omega) (by omega) (by omega)) (aw_wW 6 hG gw_7_42 gw_7_40 gw_0_0 gw_7_41 rfl rfl hd_La_feed ⟨Nat.le_of_ble_eq_true rfl, Nat.le_of_ble_eq_true rfl⟩) (ag_qS hP hD hSh hU hS) rfl rfl hl.1 rfl (lv_room (Nat.le_of_ble_eq_true rfl)) d_La_law_642 ⟨by omega, by omega⟩) hS (fun _ _ h => h) (fun _ h => h) ?_
                clear hP hD hSh hS
                intro x324 u8 t8 H locs ht _ ex324 hB _ _ hS
                obtain ⟨L, hP, hD, hSh⟩ := hB
                rw [ht] at hP
                clear ht
                subst ex324
                refine lv_istore hx hb d_La_law_645 hl (by decide) rfl (fun ls hl => ?_)
                have hl : lv_has ls 8 [(5, .int (nI 2)), (0, .ref b), (1, .ref (aw_r ad 0)), (2, .ref (aw_m ad 0)), (3, .ref (aw_o ad)), (4, .int (nI (6 * t)))] := hl
                refine lv_aload_n hx hb d_La_law_647 rfl (lv_at hl 3 rfl) ?_
                refine lv_aload_n hx hb d_La_law_648 rfl (lv_at hl 1 rfl) ?_
                refine lv_iload hx hb d_La_law_649 (lv_at hl 5 rfl) ?_
                refine lv_iconst (v := nI 1) hx hb d_La_law_651 (by decide +kernel) ?_
                refine lv_iadd hx hb d_La_law_652 ?_
                refine aw_ti (nI_add (6 * t) 1) ?_
                refine va_sld hx hb hX hbl hbA hS (i := (nI ((6 * t) + 1))) (vp_in_nI (by omega) (by omega)) d_La_law_653 ?_
                refine aw_ti (y := nI j) (by rw [nI_clamp (by omega)]; exact hc0.symm) ?_
                refine lv_aload_n hx hb d_La_law_654 rfl (lv_at hl 1 rfl) ?_
                refine lv_iload hx hb d_La_law_655 (lv_at hl 5 rfl) ?_
                refine lv_iconst (v := nI 2) hx hb d_La_law_657 (by decide +kernel) ?_
                refine lv_iadd hx hb d_La_law_658 ?_
                refine aw_ti (nI_add (6 * t) 2) ?_
                refine va_sld hx hb hX hbl hbA hS (i := (nI ((6 * t) + 2))) (vp_in_nI (by omega) (by omega)) d_La_law_659 ?_
                refine aw_ti (y := s2) (by rw [nI_clamp (by omega)]; exact hs2.symm) ?_
                have hj325 : ∀ x326 : Int32, (if s2 = 0 then nI 0 else nI 1) = x326 → W p l e room_1 s m #[Value.ref b] below meth c H locs ((85 + t) + 1) ((1246 + 6 * t) + 6) (lw_Z below #[Value.ref b] s) (F0 m 668 ls [.int x326, .int (nI j), .ref (aw_m ad 0)]) := by
                  intro x326 ebx326
                  refine lv_aload_n hx hb d_La_law_668 rfl (lv_at hl 1 rfl) ?_
                  refine lv_iload hx hb d_La_law_669 (lv_at hl 5 rfl) ?_
                  refine lv_iconst (v := nI 3) hx hb d_La_law_671 (by decide +kernel) ?_
                  refine lv_iadd hx hb d_La_law_672 ?_
                  refine aw_ti (nI_add (6 * t) 3) ?_
                  refine va_sld hx hb hX hbl hbA hS (i := (nI ((6 * t) + 3))) (vp_in_nI (by omega) (by omega)) d_La_law_673 ?_
                  refine aw_ti (y := nI k) (by rw [nI_clamp (by omega)]; exact hfr.symm) ?_
                  refine lv_aload_n hx hb d_La_law_674 rfl (lv_at hl 1 rfl) ?_
                  refine lv_iload hx hb d_La_law_675 (lv_at hl 5 rfl) ?_
                  refine lv_iconst (v := nI 4) hx hb d_La_law_677 (by decide +kernel) ?_
                  refine lv_iadd hx hb d_La_law_678 ?_
                  refine aw_ti (nI_add (6 * t) 4) ?_
                  refine va_sld hx hb hX hbl hbA hS (i := (nI ((6 * t) + 4))) (vp_in_nI (by omega) (by omega)) d_La_law_679 ?_
                  refine aw_ti (y := nI mm) (by rw [nI_clamp (by omega)]; exact hm0.symm) ?_
                  obtain ⟨_, he327⟩ := zr_M0 hSh
                  refine va_calli (va_runV (As := [.int (nI j), .int x326, .int (nI k), .int (nI mm)]) (rest := []) ⟨hx, hb, hml, hown, hG⟩ (k_Mo_feedXsV l D g ad N0 zG zO zX zY zA zB zM zI zL zK zN zF zQ j x326 k mm hj (by omega) (by omega)) (aw_wV 4 hG gw_12_26 gw_12_23 gw_0_10 gw_12_24 gw_12_25 rfl rfl hd_Mo_feed ⟨Nat.le_of_ble_eq_true rfl, Nat.le_of_ble_eq_true rfl⟩) (ag_qV (va_recv hK hP rfl he327) hP hD hSh hU hS) rfl rfl hl.1 rfl (lv_room (Nat.le_of_ble_eq_true rfl)) d_La_law_680 ⟨by omega, by omega⟩) hS (fun _ _ h => h) (fun _ h => h) ?_
                  clear hP hD hSh hS he327
                  intro x328 u8 t8 H locs ht _ ex328 hB _ _ hS
                  obtain ⟨L, hP, hD, hSh⟩ := hB
                  rw [ht] at hP
                  clear ht
                  have ex328 := ex328.symm
                  refine lv_istore hx hb d_La_law_683 hl (by decide) rfl (fun ls hl => ?_)
                  have hl : lv_has ls 8 [(6, .int x328), (5, .int (nI 2)), (0, .ref b), (1, .ref (aw_r ad 0)), (2, .ref (aw_m ad 0)), (3, .ref (aw_o ad)), (4, .int (nI (6 * t)))] := hl
                  refine lv_goto (tgt := 837) hx hb d_La_law_685 (by decide) ?_
                  refine lv_iinc (k := 6) (v := nI (6 * t + 6)) hx hb d_La_law_837 hl rfl (aw_inc (6 * t) 6 6 (by decide +kernel)) (by decide) rfl (fun ls hl => ?_)
                  have hl : lv_has ls 8 [(4, .int (nI (6 * t + 6))), (6, .int x328), (5, .int (nI 2)), (0, .ref b), (1, .ref (aw_r ad 0)), (2, .ref (aw_m ad 0)), (3, .ref (aw_o ad))] := hl
                  refine lv_goto (tgt := 23) hx hb d_La_law_840 (by decide) ?_
                  have hl := lv_sub hl (l' := [(0, .ref b), (1, .ref (aw_r ad 0)), (2, .ref (aw_m ad 0)), (3, .ref (aw_o ad)), (4, .int (nI (6 * t + 6)))]) [3, 4, 5, 6, 0] rfl
                  refine W.widen (k := 85 + (t + 1)) (n := 1246 + 6 * (t + 1)) (by omega) (by omega) ?_
                  exact ih (t + 1) zG zO zX zY zA zB zM zI zL zK zN (nI 2) zQ _ _ L ls (by omega) hP hD hSh hR hS (by first | exact hl | simpa [Nat.mul_add] using hl)
                refine lv_if_eq (tgt := 667) hx hb d_La_law_660 (by decide) (fun h9 => ?_) (fun h9 => ?_)
                · refine lv_iconst (v := nI 0) hx hb d_La_law_667 (by decide +kernel) ?_
                  exact hj325 _ (if_pos h9)
                · refine lv_iconst (v := nI 1) hx hb d_La_law_663 (by decide +kernel) ?_
                  refine lv_goto (tgt := 668) hx hb d_La_law_664 (by decide) ?_
                  exact hj325 _ (if_neg h9)
              refine lv_if_eq (tgt := 628) hx hb d_La_law_621 (by decide) (fun h9 => ?_) (fun h9 => ?_)
              · refine lv_iconst (v := nI 0) hx hb d_La_law_628 (by decide +kernel) ?_
                exact hj322 _ (if_pos h9)
              · refine lv_iconst (v := nI 1) hx hb d_La_law_624 (by decide +kernel) ?_
                refine lv_goto (tgt := 629) hx hb d_La_law_625 (by decide) ?_
                exact hj322 _ (if_neg h9)
            · by_cases hm : (zG j).2 ≤ 1
              · by_cases h8 : mm % 8 = 0
                · obtain ⟨q, rfl⟩ : ∃ q, mm = 8 * q := ⟨mm / 8, by omega⟩
                  obtain ⟨kc, hkc, hci, hco⟩ := hR.2.1 j hj (by omega)
                  refine lv_aload_n hx hb d_La_law_608 rfl (lv_at hl 1 rfl) ?_
                  refine lv_aload_n hx hb d_La_law_609 rfl (lv_at hl 0 rfl) ?_
                  refine lv_iload hx hb d_La_law_610 (lv_at hl 4 rfl) ?_
                  refine lv_iconst (v := nI 1) hx hb d_La_law_612 (by decide +kernel) ?_
                  refine lv_iadd hx hb d_La_law_613 ?_
                  refine aw_ti (nI_add (6 * t) 1) ?_
                  refine va_sld hx hb hX hbl hbA hS (i := (nI ((6 * t) + 1))) (vp_in_nI (by omega) (by omega)) d_La_law_614 ?_
                  refine aw_ti (y := nI j) (by rw [nI_clamp (by omega)]; exact hc0.symm) ?_
                  refine lv_aload_n hx hb d_La_law_615 rfl (lv_at hl 0 rfl) ?_
                  refine lv_iload hx hb d_La_law_616 (lv_at hl 4 rfl) ?_
                  refine lv_iconst (v := nI 2) hx hb d_La_law_618 (by decide +kernel) ?_
                  refine lv_iadd hx hb d_La_law_619 ?_
                  refine aw_ti (nI_add (6 * t) 2) ?_
                  refine va_sld hx hb hX hbl hbA hS (i := (nI ((6 * t) + 2))) (vp_in_nI (by omega) (by omega)) d_La_law_620 ?_
                  refine aw_ti (y := s2) (by rw [nI_clamp (by omega)]; exact hs2.symm) ?_
                  have hj329 : ∀ x330 : Int32, (if s2 = 0 then nI 0 else nI 1) = x330 → W p l e room_1 s m #[Value.ref b] below meth c H locs (85 + t) (1246 + 6 * t) (lw_Z below #[Value.ref b] s) (F0 m 629 ls [.int x330, .int (nI j), .ref (aw_r ad 0)]) := by
                    intro x330 ebx330
                    refine lv_aload_n hx hb d_La_law_629 rfl (lv_at hl 0 rfl) ?_
                    refine lv_iload hx hb d_La_law_630 (lv_at hl 4 rfl) ?_
                    refine lv_iconst (v := nI 3) hx hb d_La_law_632 (by decide +kernel) ?_
                    refine lv_iadd hx hb d_La_law_633 ?_
                    refine aw_ti (nI_add (6 * t) 3) ?_
                    refine va_sld hx hb hX hbl hbA hS (i := (nI ((6 * t) + 3))) (vp_in_nI (by omega) (by omega)) d_La_law_634 ?_
                    refine aw_ti (y := nI k) (by rw [nI_clamp (by omega)]; exact hfr.symm) ?_
                    refine lv_aload_n hx hb d_La_law_635 rfl (lv_at hl 0 rfl) ?_
                    refine lv_iload hx hb d_La_law_636 (lv_at hl 4 rfl) ?_
                    refine lv_iconst (v := nI 4) hx hb d_La_law_638 (by decide +kernel) ?_
                    refine lv_iadd hx hb d_La_law_639 ?_
                    refine aw_ti (nI_add (6 * t) 4) ?_
                    refine va_sld hx hb hX hbl hbA hS (i := (nI ((6 * t) + 4))) (vp_in_nI (by omega) (by omega)) d_La_law_640 ?_
                    refine aw_ti (y := nI (8 * q)) (by rw [nI_clamp (by omega)]; exact hm0.symm) ?_
                    refine lv_aload_n hx hb d_La_law_641 rfl (lv_at hl 3 rfl) ?_
                    refine va_calli (vx_runSW (As := [.ref (aw_r ad 0), .int (nI j), .int x330, .int (nI k), .int (nI (8 * q)), .ref (aw_o ad)]) (rest := []) ⟨hx, hb, hml, hown, hG⟩ (k_La_feed18V l hst D g ad N0 zG zO zX zY zA zB zM zI zL zK zN zF zQ j x330 k q hj (by omega) (by omega) (by omega) (by omega)) (aw_wW 6 hG gw_7_42 gw_7_40 gw_0_0 gw_7_41 rfl rfl hd_La_feed ⟨Nat.le_of_ble_eq_true rfl, Nat.le_of_ble_eq_true rfl⟩) (ag_qS hP hD hSh hU hS) rfl rfl hl.1 rfl (lv_room (Nat.le_of_ble_eq_true rfl)) d_La_law_642 ⟨by omega, by omega⟩) hS (fun _ _ h => h) (fun _ h => h) ?_
                    clear hP hD hSh hS
                    intro x331 u8 t8 H locs ht _ ex331 hB _ _ hS
                    obtain ⟨L, hP, hD, hSh⟩ := hB
                    rw [ht] at hP
                    clear ht
                    subst ex331
                    obtain ⟨zX332, ezX332⟩ : ∃ z : Nat → Nat → Int64, v_La_feed18V_zX zG zO zX zY zA zB j x330 k q = z := ⟨_, rfl⟩
                    rw [ezX332] at hSh
                    obtain ⟨zY333, ezY333⟩ : ∃ z : Nat → Nat → Int32, v_La_feed18V_zY zG zO zX zY zA zB j x330 k q = z := ⟨_, rfl⟩
                    rw [ezY333] at hSh
                    obtain ⟨zB334, ezB334⟩ : ∃ z : Nat → Int32, v_La_feed18V_zB zG zO zX zY zA zB j x330 k q = z := ⟨_, rfl⟩
                    rw [ezB334] at hSh
                    obtain ⟨zQ335, ezQ335⟩ : ∃ z : Int64, v_La_feed18V_zQ zG zO zX zY zA zB j x330 k q = z := ⟨_, rfl⟩
                    rw [ezQ335] at hSh
                    refine lv_istore hx hb d_La_law_645 hl (by decide) rfl (fun ls hl => ?_)
                    have hl : lv_has ls 8 [(5, .int (nI 0)), (0, .ref b), (1, .ref (aw_r ad 0)), (2, .ref (aw_m ad 0)), (3, .ref (aw_o ad)), (4, .int (nI (6 * t)))] := hl
                    refine lv_aload_n hx hb d_La_law_647 rfl (lv_at hl 3 rfl) ?_
                    refine lv_aload_n hx hb d_La_law_648 rfl (lv_at hl 1 rfl) ?_
                    refine lv_iload hx hb d_La_law_649 (lv_at hl 5 rfl) ?_
                    refine lv_iconst (v := nI 1) hx hb d_La_law_651 (by decide +kernel) ?_
                    refine lv_iadd hx hb d_La_law_652 ?_
                    refine aw_ti (nI_add (6 * t) 1) ?_
                    refine va_sld hx hb hX hbl hbA hS (i := (nI ((6 * t) + 1))) (vp_in_nI (by omega) (by omega)) d_La_law_653 ?_
                    refine aw_ti (y := nI j) (by rw [nI_clamp (by omega)]; exact hc0.symm) ?_
                    refine lv_aload_n hx hb d_La_law_654 rfl (lv_at hl 1 rfl) ?_
                    refine lv_iload hx hb d_La_law_655 (lv_at hl 5 rfl) ?_
                    refine lv_iconst (v := nI 2) hx hb d_La_law_657 (by decide +kernel) ?_
                    refine lv_iadd hx hb d_La_law_658 ?_
                    refine aw_ti (nI_add (6 * t) 2) ?_
                    refine va_sld hx hb hX hbl hbA hS (i := (nI ((6 * t) + 2))) (vp_in_nI (by omega) (by omega)) d_La_law_659 ?_
                    refine aw_ti (y := s2) (by rw [nI_clamp (by omega)]; exact hs2.symm) ?_
                    have hj336 : ∀ x337 : Int32, (if s2 = 0 then nI 0 else nI 1) = x337 → W p l e room_1 s m #[Value.ref b] below meth c H locs ((85 + t) + 1) ((1246 + 6 * t) + 6) (lw_Z below #[Value.ref b] s) (F0 m 668 ls [.int x337, .int (nI j), .ref (aw_m ad 0)]) := by
                      intro x337 ebx337
                      refine lv_aload_n hx hb d_La_law_668 rfl (lv_at hl 1 rfl) ?_
                      refine lv_iload hx hb d_La_law_669 (lv_at hl 5 rfl) ?_
                      refine lv_iconst (v := nI 3) hx hb d_La_law_671 (by decide +kernel) ?_
                      refine lv_iadd hx hb d_La_law_672 ?_
                      refine aw_ti (nI_add (6 * t) 3) ?_
                      refine va_sld hx hb hX hbl hbA hS (i := (nI ((6 * t) + 3))) (vp_in_nI (by omega) (by omega)) d_La_law_673 ?_
                      refine aw_ti (y := nI k) (by rw [nI_clamp (by omega)]; exact hfr.symm) ?_
                      refine lv_aload_n hx hb d_La_law_674 rfl (lv_at hl 1 rfl) ?_
                      refine lv_iload hx hb d_La_law_675 (lv_at hl 5 rfl) ?_
                      refine lv_iconst (v := nI 4) hx hb d_La_law_677 (by decide +kernel) ?_
                      refine lv_iadd hx hb d_La_law_678 ?_
                      refine aw_ti (nI_add (6 * t) 4) ?_
                      refine va_sld hx hb hX hbl hbA hS (i := (nI ((6 * t) + 4))) (vp_in_nI (by omega) (by omega)) d_La_law_679 ?_
                      refine aw_ti (y := nI (8 * q)) (by rw [nI_clamp (by omega)]; exact hm0.symm) ?_
                      obtain ⟨_, he338⟩ := zr_M0 hSh
                      refine va_calli (va_runV (As := [.int (nI j), .int x337, .int (nI k), .int (nI (8 * q))]) (rest := []) ⟨hx, hb, hml, hown, hG⟩ (k_Mo_feed8V l D g ad N0 zG zO zX332 zY333 zA zB334 zM zI zL zK zN zF zQ335 j kc x337 k (8 * q) hj (by omega) (by omega) (by omega) (by omega) hkc hci) (aw_wV 4 hG gw_12_26 gw_12_23 gw_0_10 gw_12_24 gw_12_25 rfl rfl hd_Mo_feed ⟨Nat.le_of_ble_eq_true rfl, Nat.le_of_ble_eq_true rfl⟩) (ag_qV (va_recv hK hP rfl he338) hP hD hSh hU hS) rfl rfl hl.1 rfl (lv_room (Nat.le_of_ble_eq_true rfl)) d_La_law_680 ⟨by omega, by omega⟩) hS (fun _ _ h => h) (fun _ h => h) ?_
                      clear hP hD hSh hS he338
                      intro x339 u8 t8 H locs ht _ ex339 hB _ _ hS
                      obtain ⟨L, hP, hD, hSh⟩ := hB
                      rw [ht] at hP
                      clear ht
                      obtain ⟨zI340, ezI340⟩ : ∃ z : Nat → Nat → Int32, v_Mo_feed8V_zI zM zI zL j kc x337 k (8 * q) = z := ⟨_, rfl⟩
                      rw [ezI340] at hSh
                      obtain ⟨zL341, ezL341⟩ : ∃ z : Nat → Nat → Int64, v_Mo_feed8V_zL zM zI zL j kc x337 k (8 * q) = z := ⟨_, rfl⟩
                      rw [ezL341] at hSh
                      have ex339 := ex339.symm
                      refine lv_istore hx hb d_La_law_683 hl (by decide) rfl (fun ls hl => ?_)
                      have hl : lv_has ls 8 [(6, .int x339), (5, .int (nI 0)), (0, .ref b), (1, .ref (aw_r ad 0)), (2, .ref (aw_m ad 0)), (3, .ref (aw_o ad)), (4, .int (nI (6 * t)))] := hl
                      refine lv_goto (tgt := 837) hx hb d_La_law_685 (by decide) ?_
                      refine lv_iinc (k := 6) (v := nI (6 * t + 6)) hx hb d_La_law_837 hl rfl (aw_inc (6 * t) 6 6 (by decide +kernel)) (by decide) rfl (fun ls hl => ?_)
                      have hl : lv_has ls 8 [(4, .int (nI (6 * t + 6))), (6, .int x339), (5, .int (nI 0)), (0, .ref b), (1, .ref (aw_r ad 0)), (2, .ref (aw_m ad 0)), (3, .ref (aw_o ad))] := hl
                      refine lv_goto (tgt := 23) hx hb d_La_law_840 (by decide) ?_
                      have hl := lv_sub hl (l' := [(0, .ref b), (1, .ref (aw_r ad 0)), (2, .ref (aw_m ad 0)), (3, .ref (aw_o ad)), (4, .int (nI (6 * t + 6)))]) [3, 4, 5, 6, 0] rfl
                      refine W.widen (k := 85 + (t + 1)) (n := 1246 + 6 * (t + 1)) (by omega) (by omega) ?_
                      have hR : az_R zG zO zX332 zY333 zA zB334 zM zI340 zL341 := by
                        subst ex339 ezL341 ezI340 ebx337 ezQ335 ezB334 ezY333 ezX332 ebx330
                        exact r_feed18_8 hR hj hs hm h0 hk hkc hci hco
                      exact ih (t + 1) zG zO zX332 zY333 zA zB334 zM zI340 zL341 (nI kc) (az_wn kc) (nI 0) zQ335 _ _ L ls (by omega) hP hD hSh hR hS (by first | exact hl | simpa [Nat.mul_add] using hl)
                    refine lv_if_eq (tgt := 667) hx hb d_La_law_660 (by decide) (fun h9 => ?_) (fun h9 => ?_)
                    · refine lv_iconst (v := nI 0) hx hb d_La_law_667 (by decide +kernel) ?_
                      exact hj336 _ (if_pos h9)
                    · refine lv_iconst (v := nI 1) hx hb d_La_law_663 (by decide +kernel) ?_
                      refine lv_goto (tgt := 668) hx hb d_La_law_664 (by decide) ?_
                      exact hj336 _ (if_neg h9)
                  refine lv_if_eq (tgt := 628) hx hb d_La_law_621 (by decide) (fun h9 => ?_) (fun h9 => ?_)
                  · refine lv_iconst (v := nI 0) hx hb d_La_law_628 (by decide +kernel) ?_
                    exact hj329 _ (if_pos h9)
                  · refine lv_iconst (v := nI 1) hx hb d_La_law_624 (by decide +kernel) ?_
                    refine lv_goto (tgt := 629) hx hb d_La_law_625 (by decide) ?_
                    exact hj329 _ (if_neg h9)
                · refine lv_aload_n hx hb d_La_law_608 rfl (lv_at hl 1 rfl) ?_
                  refine lv_aload_n hx hb d_La_law_609 rfl (lv_at hl 0 rfl) ?_
                  refine lv_iload hx hb d_La_law_610 (lv_at hl 4 rfl) ?_
                  refine lv_iconst (v := nI 1) hx hb d_La_law_612 (by decide +kernel) ?_
                  refine lv_iadd hx hb d_La_law_613 ?_
                  refine aw_ti (nI_add (6 * t) 1) ?_
                  refine va_sld hx hb hX hbl hbA hS (i := (nI ((6 * t) + 1))) (vp_in_nI (by omega) (by omega)) d_La_law_614 ?_
                  refine aw_ti (y := nI j) (by rw [nI_clamp (by omega)]; exact hc0.symm) ?_
                  refine lv_aload_n hx hb d_La_law_615 rfl (lv_at hl 0 rfl) ?_
                  refine lv_iload hx hb d_La_law_616 (lv_at hl 4 rfl) ?_
                  refine lv_iconst (v := nI 2) hx hb d_La_law_618 (by decide +kernel) ?_
                  refine lv_iadd hx hb d_La_law_619 ?_
                  refine aw_ti (nI_add (6 * t) 2) ?_
                  refine va_sld hx hb hX hbl hbA hS (i := (nI ((6 * t) + 2))) (vp_in_nI (by omega) (by omega)) d_La_law_620 ?_
                  refine aw_ti (y := s2) (by rw [nI_clamp (by omega)]; exact hs2.symm) ?_
                  have hj342 : ∀ x343 : Int32, (if s2 = 0 then nI 0 else nI 1) = x343 → W p l e room_1 s m #[Value.ref b] below meth c H locs (85 + t) (1246 + 6 * t) (lw_Z below #[Value.ref b] s) (F0 m 629 ls [.int x343, .int (nI j), .ref (aw_r ad 0)]) := by
                    intro x343 ebx343
                    refine lv_aload_n hx hb d_La_law_629 rfl (lv_at hl 0 rfl) ?_
                    refine lv_iload hx hb d_La_law_630 (lv_at hl 4 rfl) ?_
                    refine lv_iconst (v := nI 3) hx hb d_La_law_632 (by decide +kernel) ?_
                    refine lv_iadd hx hb d_La_law_633 ?_
                    refine aw_ti (nI_add (6 * t) 3) ?_
                    refine va_sld hx hb hX hbl hbA hS (i := (nI ((6 * t) + 3))) (vp_in_nI (by omega) (by omega)) d_La_law_634 ?_
                    refine aw_ti (y := nI k) (by rw [nI_clamp (by omega)]; exact hfr.symm) ?_
                    refine lv_aload_n hx hb d_La_law_635 rfl (lv_at hl 0 rfl) ?_
                    refine lv_iload hx hb d_La_law_636 (lv_at hl 4 rfl) ?_
                    refine lv_iconst (v := nI 4) hx hb d_La_law_638 (by decide +kernel) ?_
                    refine lv_iadd hx hb d_La_law_639 ?_
                    refine aw_ti (nI_add (6 * t) 4) ?_
                    refine va_sld hx hb hX hbl hbA hS (i := (nI ((6 * t) + 4))) (vp_in_nI (by omega) (by omega)) d_La_law_640 ?_
                    refine aw_ti (y := nI mm) (by rw [nI_clamp (by omega)]; exact hm0.symm) ?_
                    refine lv_aload_n hx hb d_La_law_641 rfl (lv_at hl 3 rfl) ?_
                    refine va_calli (vx_runSW (As := [.ref (aw_r ad 0), .int (nI j), .int x343, .int (nI k), .int (nI mm), .ref (aw_o ad)]) (rest := []) ⟨hx, hb, hml, hown, hG⟩ (k_La_feedXaV l hst D g ad N0 zG zO zX zY zA zB zM zI zL zK zN zF zQ j x343 k mm hj (by omega) (by omega) (by omega) (by omega) (by omega)) (aw_wW 6 hG gw_7_42 gw_7_40 gw_0_0 gw_7_41 rfl rfl hd_La_feed ⟨Nat.le_of_ble_eq_true rfl, Nat.le_of_ble_eq_true rfl⟩) (ag_qS hP hD hSh hU hS) rfl rfl hl.1 rfl (lv_room (Nat.le_of_ble_eq_true rfl)) d_La_law_642 ⟨by omega, by omega⟩) hS (fun _ _ h => h) (fun _ h => h) ?_
                    clear hP hD hSh hS
                    intro x344 u8 t8 H locs ht _ ex344 hB _ _ hS
                    obtain ⟨L, hP, hD, hSh⟩ := hB
                    rw [ht] at hP
                    clear ht
                    subst ex344
                    refine lv_istore hx hb d_La_law_645 hl (by decide) rfl (fun ls hl => ?_)
                    have hl : lv_has ls 8 [(5, .int (nI 3)), (0, .ref b), (1, .ref (aw_r ad 0)), (2, .ref (aw_m ad 0)), (3, .ref (aw_o ad)), (4, .int (nI (6 * t)))] := hl
                    refine lv_aload_n hx hb d_La_law_647 rfl (lv_at hl 3 rfl) ?_
                    refine lv_aload_n hx hb d_La_law_648 rfl (lv_at hl 1 rfl) ?_
                    refine lv_iload hx hb d_La_law_649 (lv_at hl 5 rfl) ?_
                    refine lv_iconst (v := nI 1) hx hb d_La_law_651 (by decide +kernel) ?_
                    refine lv_iadd hx hb d_La_law_652 ?_
                    refine aw_ti (nI_add (6 * t) 1) ?_
                    refine va_sld hx hb hX hbl hbA hS (i := (nI ((6 * t) + 1))) (vp_in_nI (by omega) (by omega)) d_La_law_653 ?_
                    refine aw_ti (y := nI j) (by rw [nI_clamp (by omega)]; exact hc0.symm) ?_
                    refine lv_aload_n hx hb d_La_law_654 rfl (lv_at hl 1 rfl) ?_
                    refine lv_iload hx hb d_La_law_655 (lv_at hl 5 rfl) ?_
                    refine lv_iconst (v := nI 2) hx hb d_La_law_657 (by decide +kernel) ?_
                    refine lv_iadd hx hb d_La_law_658 ?_
                    refine aw_ti (nI_add (6 * t) 2) ?_
                    refine va_sld hx hb hX hbl hbA hS (i := (nI ((6 * t) + 2))) (vp_in_nI (by omega) (by omega)) d_La_law_659 ?_
                    refine aw_ti (y := s2) (by rw [nI_clamp (by omega)]; exact hs2.symm) ?_
                    have hj345 : ∀ x346 : Int32, (if s2 = 0 then nI 0 else nI 1) = x346 → W p l e room_1 s m #[Value.ref b] below meth c H locs ((85 + t) + 1) ((1246 + 6 * t) + 6) (lw_Z below #[Value.ref b] s) (F0 m 668 ls [.int x346, .int (nI j), .ref (aw_m ad 0)]) := by
                      intro x346 ebx346
                      refine lv_aload_n hx hb d_La_law_668 rfl (lv_at hl 1 rfl) ?_
                      refine lv_iload hx hb d_La_law_669 (lv_at hl 5 rfl) ?_
                      refine lv_iconst (v := nI 3) hx hb d_La_law_671 (by decide +kernel) ?_
                      refine lv_iadd hx hb d_La_law_672 ?_
                      refine aw_ti (nI_add (6 * t) 3) ?_
                      refine va_sld hx hb hX hbl hbA hS (i := (nI ((6 * t) + 3))) (vp_in_nI (by omega) (by omega)) d_La_law_673 ?_
                      refine aw_ti (y := nI k) (by rw [nI_clamp (by omega)]; exact hfr.symm) ?_
                      refine lv_aload_n hx hb d_La_law_674 rfl (lv_at hl 1 rfl) ?_
                      refine lv_iload hx hb d_La_law_675 (lv_at hl 5 rfl) ?_
                      refine lv_iconst (v := nI 4) hx hb d_La_law_677 (by decide +kernel) ?_
                      refine lv_iadd hx hb d_La_law_678 ?_
                      refine aw_ti (nI_add (6 * t) 4) ?_
                      refine va_sld hx hb hX hbl hbA hS (i := (nI ((6 * t) + 4))) (vp_in_nI (by omega) (by omega)) d_La_law_679 ?_
                      refine aw_ti (y := nI mm) (by rw [nI_clamp (by omega)]; exact hm0.symm) ?_
                      obtain ⟨_, he347⟩ := zr_M0 hSh
                      refine va_calli (va_runV (As := [.int (nI j), .int x346, .int (nI k), .int (nI mm)]) (rest := []) ⟨hx, hb, hml, hown, hG⟩ (k_Mo_feedXaV l D g ad N0 zG zO zX zY zA zB zM zI zL zK zN zF zQ j x346 k mm hj (by omega) (by omega) (by omega) (by omega)) (aw_wV 4 hG gw_12_26 gw_12_23 gw_0_10 gw_12_24 gw_12_25 rfl rfl hd_Mo_feed ⟨Nat.le_of_ble_eq_true rfl, Nat.le_of_ble_eq_true rfl⟩) (ag_qV (va_recv hK hP rfl he347) hP hD hSh hU hS) rfl rfl hl.1 rfl (lv_room (Nat.le_of_ble_eq_true rfl)) d_La_law_680 ⟨by omega, by omega⟩) hS (fun _ _ h => h) (fun _ h => h) ?_
                      clear hP hD hSh hS he347
                      intro x348 u8 t8 H locs ht _ ex348 hB _ _ hS
                      obtain ⟨L, hP, hD, hSh⟩ := hB
                      rw [ht] at hP
                      clear ht
                      have ex348 := ex348.symm
                      refine lv_istore hx hb d_La_law_683 hl (by decide) rfl (fun ls hl => ?_)
                      have hl : lv_has ls 8 [(6, .int x348), (5, .int (nI 3)), (0, .ref b), (1, .ref (aw_r ad 0)), (2, .ref (aw_m ad 0)), (3, .ref (aw_o ad)), (4, .int (nI (6 * t)))] := hl
                      refine lv_goto (tgt := 837) hx hb d_La_law_685 (by decide) ?_
                      refine lv_iinc (k := 6) (v := nI (6 * t + 6)) hx hb d_La_law_837 hl rfl (aw_inc (6 * t) 6 6 (by decide +kernel)) (by decide) rfl (fun ls hl => ?_)
                      have hl : lv_has ls 8 [(4, .int (nI (6 * t + 6))), (6, .int x348), (5, .int (nI 3)), (0, .ref b), (1, .ref (aw_r ad 0)), (2, .ref (aw_m ad 0)), (3, .ref (aw_o ad))] := hl
                      refine lv_goto (tgt := 23) hx hb d_La_law_840 (by decide) ?_
                      have hl := lv_sub hl (l' := [(0, .ref b), (1, .ref (aw_r ad 0)), (2, .ref (aw_m ad 0)), (3, .ref (aw_o ad)), (4, .int (nI (6 * t + 6)))]) [3, 4, 5, 6, 0] rfl
                      refine W.widen (k := 85 + (t + 1)) (n := 1246 + 6 * (t + 1)) (by omega) (by omega) ?_
                      exact ih (t + 1) zG zO zX zY zA zB zM zI zL zK zN (nI 3) zQ _ _ L ls (by omega) hP hD hSh hR hS (by first | exact hl | simpa [Nat.mul_add] using hl)
                    refine lv_if_eq (tgt := 667) hx hb d_La_law_660 (by decide) (fun h9 => ?_) (fun h9 => ?_)
                    · refine lv_iconst (v := nI 0) hx hb d_La_law_667 (by decide +kernel) ?_
                      exact hj345 _ (if_pos h9)
                    · refine lv_iconst (v := nI 1) hx hb d_La_law_663 (by decide +kernel) ?_
                      refine lv_goto (tgt := 668) hx hb d_La_law_664 (by decide) ?_
                      exact hj345 _ (if_neg h9)
                  refine lv_if_eq (tgt := 628) hx hb d_La_law_621 (by decide) (fun h9 => ?_) (fun h9 => ?_)
                  · refine lv_iconst (v := nI 0) hx hb d_La_law_628 (by decide +kernel) ?_
                    exact hj342 _ (if_pos h9)
                  · refine lv_iconst (v := nI 1) hx hb d_La_law_624 (by decide +kernel) ?_
                    refine lv_goto (tgt := 629) hx hb d_La_law_625 (by decide) ?_
                    exact hj342 _ (if_neg h9)
              · obtain ⟨kc, hkc, hci, hco⟩ := hR.2.1 j hj (by omega)
                refine lv_aload_n hx hb d_La_law_608 rfl (lv_at hl 1 rfl) ?_
                refine lv_aload_n hx hb d_La_law_609 rfl (lv_at hl 0 rfl) ?_
                refine lv_iload hx hb d_La_law_610 (lv_at hl 4 rfl) ?_
                refine lv_iconst (v := nI 1) hx hb d_La_law_612 (by decide +kernel) ?_
                refine lv_iadd hx hb d_La_law_613 ?_
                refine aw_ti (nI_add (6 * t) 1) ?_
                refine va_sld hx hb hX hbl hbA hS (i := (nI ((6 * t) + 1))) (vp_in_nI (by omega) (by omega)) d_La_law_614 ?_
                refine aw_ti (y := nI j) (by rw [nI_clamp (by omega)]; exact hc0.symm) ?_
                refine lv_aload_n hx hb d_La_law_615 rfl (lv_at hl 0 rfl) ?_
                refine lv_iload hx hb d_La_law_616 (lv_at hl 4 rfl) ?_
                refine lv_iconst (v := nI 2) hx hb d_La_law_618 (by decide +kernel) ?_
                refine lv_iadd hx hb d_La_law_619 ?_
                refine aw_ti (nI_add (6 * t) 2) ?_
                refine va_sld hx hb hX hbl hbA hS (i := (nI ((6 * t) + 2))) (vp_in_nI (by omega) (by omega)) d_La_law_620 ?_
                refine aw_ti (y := s2) (by rw [nI_clamp (by omega)]; exact hs2.symm) ?_
                have hj349 : ∀ x350 : Int32, (if s2 = 0 then nI 0 else nI 1) = x350 → W p l e room_1 s m #[Value.ref b] below meth c H locs (85 + t) (1246 + 6 * t) (lw_Z below #[Value.ref b] s) (F0 m 629 ls [.int x350, .int (nI j), .ref (aw_r ad 0)]) := by
                  intro x350 ebx350
                  refine lv_aload_n hx hb d_La_law_629 rfl (lv_at hl 0 rfl) ?_
                  refine lv_iload hx hb d_La_law_630 (lv_at hl 4 rfl) ?_
                  refine lv_iconst (v := nI 3) hx hb d_La_law_632 (by decide +kernel) ?_
                  refine lv_iadd hx hb d_La_law_633 ?_
                  refine aw_ti (nI_add (6 * t) 3) ?_
                  refine va_sld hx hb hX hbl hbA hS (i := (nI ((6 * t) + 3))) (vp_in_nI (by omega) (by omega)) d_La_law_634 ?_
                  refine aw_ti (y := nI k) (by rw [nI_clamp (by omega)]; exact hfr.symm) ?_
                  refine lv_aload_n hx hb d_La_law_635 rfl (lv_at hl 0 rfl) ?_
                  refine lv_iload hx hb d_La_law_636 (lv_at hl 4 rfl) ?_
                  refine lv_iconst (v := nI 4) hx hb d_La_law_638 (by decide +kernel) ?_
                  refine lv_iadd hx hb d_La_law_639 ?_
                  refine aw_ti (nI_add (6 * t) 4) ?_
                  refine va_sld hx hb hX hbl hbA hS (i := (nI ((6 * t) + 4))) (vp_in_nI (by omega) (by omega)) d_La_law_640 ?_
                  refine aw_ti (y := nI mm) (by rw [nI_clamp (by omega)]; exact hm0.symm) ?_
                  refine lv_aload_n hx hb d_La_law_641 rfl (lv_at hl 3 rfl) ?_
                  refine va_calli (vx_runSW (As := [.ref (aw_r ad 0), .int (nI j), .int x350, .int (nI k), .int (nI mm), .ref (aw_o ad)]) (rest := []) ⟨hx, hb, hml, hown, hG⟩ (k_La_feed11V l hst D g ad N0 zG zO zX zY zA zB zM zI zL zK zN zF zQ j x350 k mm hj (by omega) (by omega) (by omega) (by omega) (by omega)) (aw_wW 6 hG gw_7_42 gw_7_40 gw_0_0 gw_7_41 rfl rfl hd_La_feed ⟨Nat.le_of_ble_eq_true rfl, Nat.le_of_ble_eq_true rfl⟩) (ag_qS hP hD hSh hU hS) rfl rfl hl.1 rfl (lv_room (Nat.le_of_ble_eq_true rfl)) d_La_law_642 ⟨by omega, by omega⟩) hS (fun _ _ h => h) (fun _ h => h) ?_
                  clear hP hD hSh hS
                  intro x351 u8 t8 H locs ht _ ex351 hB _ _ hS
                  obtain ⟨L, hP, hD, hSh⟩ := hB
                  rw [ht] at hP
                  clear ht
                  subst ex351
                  obtain ⟨zX352, ezX352⟩ : ∃ z : Nat → Nat → Int64, v_La_feed11V_zX zG zO zX zY zA zB j x350 k mm = z := ⟨_, rfl⟩
                  rw [ezX352] at hSh
                  obtain ⟨zY353, ezY353⟩ : ∃ z : Nat → Nat → Int32, v_La_feed11V_zY zG zO zX zY zA zB j x350 k mm = z := ⟨_, rfl⟩
                  rw [ezY353] at hSh
                  obtain ⟨zB354, ezB354⟩ : ∃ z : Nat → Int32, v_La_feed11V_zB zG zO zX zY zA zB j x350 k mm = z := ⟨_, rfl⟩
                  rw [ezB354] at hSh
                  obtain ⟨zQ355, ezQ355⟩ : ∃ z : Int64, v_La_feed11V_zQ zG zO zX zY zA zB j x350 k mm = z := ⟨_, rfl⟩
                  rw [ezQ355] at hSh
                  refine lv_istore hx hb d_La_law_645 hl (by decide) rfl (fun ls hl => ?_)
                  have hl : lv_has ls 8 [(5, .int (nI 0)), (0, .ref b), (1, .ref (aw_r ad 0)), (2, .ref (aw_m ad 0)), (3, .ref (aw_o ad)), (4, .int (nI (6 * t)))] := hl
                  refine lv_aload_n hx hb d_La_law_647 rfl (lv_at hl 3 rfl) ?_
                  refine lv_aload_n hx hb d_La_law_648 rfl (lv_at hl 1 rfl) ?_
                  refine lv_iload hx hb d_La_law_649 (lv_at hl 5 rfl) ?_
                  refine lv_iconst (v := nI 1) hx hb d_La_law_651 (by decide +kernel) ?_
                  refine lv_iadd hx hb d_La_law_652 ?_
                  refine aw_ti (nI_add (6 * t) 1) ?_
                  refine va_sld hx hb hX hbl hbA hS (i := (nI ((6 * t) + 1))) (vp_in_nI (by omega) (by omega)) d_La_law_653 ?_
                  refine aw_ti (y := nI j) (by rw [nI_clamp (by omega)]; exact hc0.symm) ?_
                  refine lv_aload_n hx hb d_La_law_654 rfl (lv_at hl 1 rfl) ?_
                  refine lv_iload hx hb d_La_law_655 (lv_at hl 5 rfl) ?_
                  refine lv_iconst (v := nI 2) hx hb d_La_law_657 (by decide +kernel) ?_
                  refine lv_iadd hx hb d_La_law_658 ?_
                  refine aw_ti (nI_add (6 * t) 2) ?_
                  refine va_sld hx hb hX hbl hbA hS (i := (nI ((6 * t) + 2))) (vp_in_nI (by omega) (by omega)) d_La_law_659 ?_
                  refine aw_ti (y := s2) (by rw [nI_clamp (by omega)]; exact hs2.symm) ?_
                  have hj356 : ∀ x357 : Int32, (if s2 = 0 then nI 0 else nI 1) = x357 → W p l e room_1 s m #[Value.ref b] below meth c H locs ((85 + t) + 1) ((1246 + 6 * t) + 6) (lw_Z below #[Value.ref b] s) (F0 m 668 ls [.int x357, .int (nI j), .ref (aw_m ad 0)]) := by
                    intro x357 ebx357
                    refine lv_aload_n hx hb d_La_law_668 rfl (lv_at hl 1 rfl) ?_
                    refine lv_iload hx hb d_La_law_669 (lv_at hl 5 rfl) ?_
                    refine lv_iconst (v := nI 3) hx hb d_La_law_671 (by decide +kernel) ?_
                    refine lv_iadd hx hb d_La_law_672 ?_
                    refine aw_ti (nI_add (6 * t) 3) ?_
                    refine va_sld hx hb hX hbl hbA hS (i := (nI ((6 * t) + 3))) (vp_in_nI (by omega) (by omega)) d_La_law_673 ?_
                    refine aw_ti (y := nI k) (by rw [nI_clamp (by omega)]; exact hfr.symm) ?_
                    refine lv_aload_n hx hb d_La_law_674 rfl (lv_at hl 1 rfl) ?_
                    refine lv_iload hx hb d_La_law_675 (lv_at hl 5 rfl) ?_
                    refine lv_iconst (v := nI 4) hx hb d_La_law_677 (by decide +kernel) ?_
                    refine lv_iadd hx hb d_La_law_678 ?_
                    refine aw_ti (nI_add (6 * t) 4) ?_
                    refine va_sld hx hb hX hbl hbA hS (i := (nI ((6 * t) + 4))) (vp_in_nI (by omega) (by omega)) d_La_law_679 ?_
                    refine aw_ti (y := nI mm) (by rw [nI_clamp (by omega)]; exact hm0.symm) ?_
                    obtain ⟨_, he358⟩ := zr_M0 hSh
                    refine va_calli (va_runV (As := [.int (nI j), .int x357, .int (nI k), .int (nI mm)]) (rest := []) ⟨hx, hb, hml, hown, hG⟩ (k_Mo_feed1V l D g ad N0 zG zO zX352 zY353 zA zB354 zM zI zL zK zN zF zQ355 j kc x357 k mm hj (by omega) (by omega) (by omega) (by omega) hkc hci) (aw_wV 4 hG gw_12_26 gw_12_23 gw_0_10 gw_12_24 gw_12_25 rfl rfl hd_Mo_feed ⟨Nat.le_of_ble_eq_true rfl, Nat.le_of_ble_eq_true rfl⟩) (ag_qV (va_recv hK hP rfl he358) hP hD hSh hU hS) rfl rfl hl.1 rfl (lv_room (Nat.le_of_ble_eq_true rfl)) d_La_law_680 ⟨by omega, by omega⟩) hS (fun _ _ h => h) (fun _ h => h) ?_
                    clear hP hD hSh hS he358
                    intro x359 u8 t8 H locs ht _ ex359 hB _ _ hS
                    obtain ⟨L, hP, hD, hSh⟩ := hB
                    rw [ht] at hP
                    clear ht
                    obtain ⟨zI360, ezI360⟩ : ∃ z : Nat → Nat → Int32, v_Mo_feed1V_zI zM zI zL j kc x357 k mm = z := ⟨_, rfl⟩
                    rw [ezI360] at hSh
                    obtain ⟨zL361, ezL361⟩ : ∃ z : Nat → Nat → Int64, v_Mo_feed1V_zL zM zI zL j kc x357 k mm = z := ⟨_, rfl⟩
                    rw [ezL361] at hSh
                    have ex359 := ex359.symm
                    refine lv_istore hx hb d_La_law_683 hl (by decide) rfl (fun ls hl => ?_)
                    have hl : lv_has ls 8 [(6, .int x359), (5, .int (nI 0)), (0, .ref b), (1, .ref (aw_r ad 0)), (2, .ref (aw_m ad 0)), (3, .ref (aw_o ad)), (4, .int (nI (6 * t)))] := hl
                    refine lv_goto (tgt := 837) hx hb d_La_law_685 (by decide) ?_
                    refine lv_iinc (k := 6) (v := nI (6 * t + 6)) hx hb d_La_law_837 hl rfl (aw_inc (6 * t) 6 6 (by decide +kernel)) (by decide) rfl (fun ls hl => ?_)
                    have hl : lv_has ls 8 [(4, .int (nI (6 * t + 6))), (6, .int x359), (5, .int (nI 0)), (0, .ref b), (1, .ref (aw_r ad 0)), (2, .ref (aw_m ad 0)), (3, .ref (aw_o ad))] := hl
                    refine lv_goto (tgt := 23) hx hb d_La_law_840 (by decide) ?_
                    have hl := lv_sub hl (l' := [(0, .ref b), (1, .ref (aw_r ad 0)), (2, .ref (aw_m ad 0)), (3, .ref (aw_o ad)), (4, .int (nI (6 * t + 6)))]) [3, 4, 5, 6, 0] rfl
                    refine W.widen (k := 85 + (t + 1)) (n := 1246 + 6 * (t + 1)) (by omega) (by omega) ?_
                    have hR : az_R zG zO zX352 zY353 zA zB354 zM zI360 zL361 := by
                      subst ex359 ezL361 ezI360 ebx357 ezQ355 ezB354 ezY353 ezX352 ebx350
                      exact r_feed11_1 hR hj hs (by omega) (by omega) h0 hk hkc hci hco
                    exact ih (t + 1) zG zO zX352 zY353 zA zB354 zM zI360 zL361 (nI kc) (az_wn kc) (nI 0) zQ355 _ _ L ls (by omega) hP hD hSh hR hS (by first | exact hl | simpa [Nat.mul_add] using hl)
                  refine lv_if_eq (tgt := 667) hx hb d_La_law_660 (by decide) (fun h9 => ?_) (fun h9 => ?_)
                  · refine lv_iconst (v := nI 0) hx hb d_La_law_667 (by decide +kernel) ?_
                    exact hj356 _ (if_pos h9)
                  · refine lv_iconst (v := nI 1) hx hb d_La_law_663 (by decide +kernel) ?_
                    refine lv_goto (tgt := 668) hx hb d_La_law_664 (by decide) ?_
                    exact hj356 _ (if_neg h9)
                refine lv_if_eq (tgt := 628) hx hb d_La_law_621 (by decide) (fun h9 => ?_) (fun h9 => ?_)
                · refine lv_iconst (v := nI 0) hx hb d_La_law_628 (by decide +kernel) ?_
                  exact hj349 _ (if_pos h9)
                · refine lv_iconst (v := nI 1) hx hb d_La_law_624 (by decide +kernel) ?_
                  refine lv_goto (tgt := 629) hx hb d_La_law_625 (by decide) ?_
                  exact hj349 _ (if_neg h9)
          · refine lv_aload_n hx hb d_La_law_608 rfl (lv_at hl 1 rfl) ?_
            refine lv_aload_n hx hb d_La_law_609 rfl (lv_at hl 0 rfl) ?_
            refine lv_iload hx hb d_La_law_610 (lv_at hl 4 rfl) ?_
            refine lv_iconst (v := nI 1) hx hb d_La_law_612 (by decide +kernel) ?_
            refine lv_iadd hx hb d_La_law_613 ?_
            refine aw_ti (nI_add (6 * t) 1) ?_
            refine va_sld hx hb hX hbl hbA hS (i := (nI ((6 * t) + 1))) (vp_in_nI (by omega) (by omega)) d_La_law_614 ?_
            refine aw_ti (y := nI j) (by rw [nI_clamp (by omega)]; exact hc0.symm) ?_
            refine lv_aload_n hx hb d_La_law_615 rfl (lv_at hl 0 rfl) ?_
            refine lv_iload hx hb d_La_law_616 (lv_at hl 4 rfl) ?_
            refine lv_iconst (v := nI 2) hx hb d_La_law_618 (by decide +kernel) ?_
            refine lv_iadd hx hb d_La_law_619 ?_
            refine aw_ti (nI_add (6 * t) 2) ?_
            refine va_sld hx hb hX hbl hbA hS (i := (nI ((6 * t) + 2))) (vp_in_nI (by omega) (by omega)) d_La_law_620 ?_
            refine aw_ti (y := s2) (by rw [nI_clamp (by omega)]; exact hs2.symm) ?_
            have hj362 : ∀ x363 : Int32, (if s2 = 0 then nI 0 else nI 1) = x363 → W p l e room_1 s m #[Value.ref b] below meth c H locs (85 + t) (1246 + 6 * t) (lw_Z below #[Value.ref b] s) (F0 m 629 ls [.int x363, .int (nI j), .ref (aw_r ad 0)]) := by
              intro x363 ebx363
              refine lv_aload_n hx hb d_La_law_629 rfl (lv_at hl 0 rfl) ?_
              refine lv_iload hx hb d_La_law_630 (lv_at hl 4 rfl) ?_
              refine lv_iconst (v := nI 3) hx hb d_La_law_632 (by decide +kernel) ?_
              refine lv_iadd hx hb d_La_law_633 ?_
              refine aw_ti (nI_add (6 * t) 3) ?_
              refine va_sld hx hb hX hbl hbA hS (i := (nI ((6 * t) + 3))) (vp_in_nI (by omega) (by omega)) d_La_law_634 ?_
              refine aw_ti (y := nI k) (by rw [nI_clamp (by omega)]; exact hfr.symm) ?_
              refine lv_aload_n hx hb d_La_law_635 rfl (lv_at hl 0 rfl) ?_
              refine lv_iload hx hb d_La_law_636 (lv_at hl 4 rfl) ?_
              refine lv_iconst (v := nI 4) hx hb d_La_law_638 (by decide +kernel) ?_
              refine lv_iadd hx hb d_La_law_639 ?_
              refine aw_ti (nI_add (6 * t) 4) ?_
              refine va_sld hx hb hX hbl hbA hS (i := (nI ((6 * t) + 4))) (vp_in_nI (by omega) (by omega)) d_La_law_640 ?_
              refine aw_ti (y := nI mm) (by rw [nI_clamp (by omega)]; exact hm0.symm) ?_
              refine lv_aload_n hx hb d_La_law_641 rfl (lv_at hl 3 rfl) ?_
              refine va_calli (vx_runSW (As := [.ref (aw_r ad 0), .int (nI j), .int x363, .int (nI k), .int (nI mm), .ref (aw_o ad)]) (rest := []) ⟨hx, hb, hml, hown, hG⟩ (k_La_feedXs1V l hst D g ad N0 zG zO zX zY zA zB zM zI zL zK zN zF zQ j x363 k mm hj (by omega) (by omega) (by omega)) (aw_wW 6 hG gw_7_42 gw_7_40 gw_0_0 gw_7_41 rfl rfl hd_La_feed ⟨Nat.le_of_ble_eq_true rfl, Nat.le_of_ble_eq_true rfl⟩) (ag_qS hP hD hSh hU hS) rfl rfl hl.1 rfl (lv_room (Nat.le_of_ble_eq_true rfl)) d_La_law_642 ⟨by omega, by omega⟩) hS (fun _ _ h => h) (fun _ h => h) ?_
              clear hP hD hSh hS
              intro x364 u8 t8 H locs ht _ ex364 hB _ _ hS
              obtain ⟨L, hP, hD, hSh⟩ := hB
              rw [ht] at hP
              clear ht
              subst ex364
              refine lv_istore hx hb d_La_law_645 hl (by decide) rfl (fun ls hl => ?_)
              have hl : lv_has ls 8 [(5, .int (nI 2)), (0, .ref b), (1, .ref (aw_r ad 0)), (2, .ref (aw_m ad 0)), (3, .ref (aw_o ad)), (4, .int (nI (6 * t)))] := hl
              refine lv_aload_n hx hb d_La_law_647 rfl (lv_at hl 3 rfl) ?_
              refine lv_aload_n hx hb d_La_law_648 rfl (lv_at hl 1 rfl) ?_
              refine lv_iload hx hb d_La_law_649 (lv_at hl 5 rfl) ?_
              refine lv_iconst (v := nI 1) hx hb d_La_law_651 (by decide +kernel) ?_
              refine lv_iadd hx hb d_La_law_652 ?_
              refine aw_ti (nI_add (6 * t) 1) ?_
              refine va_sld hx hb hX hbl hbA hS (i := (nI ((6 * t) + 1))) (vp_in_nI (by omega) (by omega)) d_La_law_653 ?_
              refine aw_ti (y := nI j) (by rw [nI_clamp (by omega)]; exact hc0.symm) ?_
              refine lv_aload_n hx hb d_La_law_654 rfl (lv_at hl 1 rfl) ?_
              refine lv_iload hx hb d_La_law_655 (lv_at hl 5 rfl) ?_
              refine lv_iconst (v := nI 2) hx hb d_La_law_657 (by decide +kernel) ?_
              refine lv_iadd hx hb d_La_law_658 ?_
              refine aw_ti (nI_add (6 * t) 2) ?_
              refine va_sld hx hb hX hbl hbA hS (i := (nI ((6 * t) + 2))) (vp_in_nI (by omega) (by omega)) d_La_law_659 ?_
              refine aw_ti (y := s2) (by rw [nI_clamp (by omega)]; exact hs2.symm) ?_
              have hj365 : ∀ x366 : Int32, (if s2 = 0 then nI 0 else nI 1) = x366 → W p l e room_1 s m #[Value.ref b] below meth c H locs ((85 + t) + 1) ((1246 + 6 * t) + 6) (lw_Z below #[Value.ref b] s) (F0 m 668 ls [.int x366, .int (nI j), .ref (aw_m ad 0)]) := by
                intro x366 ebx366
                refine lv_aload_n hx hb d_La_law_668 rfl (lv_at hl 1 rfl) ?_
                refine lv_iload hx hb d_La_law_669 (lv_at hl 5 rfl) ?_
                refine lv_iconst (v := nI 3) hx hb d_La_law_671 (by decide +kernel) ?_
                refine lv_iadd hx hb d_La_law_672 ?_
                refine aw_ti (nI_add (6 * t) 3) ?_
                refine va_sld hx hb hX hbl hbA hS (i := (nI ((6 * t) + 3))) (vp_in_nI (by omega) (by omega)) d_La_law_673 ?_
                refine aw_ti (y := nI k) (by rw [nI_clamp (by omega)]; exact hfr.symm) ?_
                refine lv_aload_n hx hb d_La_law_674 rfl (lv_at hl 1 rfl) ?_
                refine lv_iload hx hb d_La_law_675 (lv_at hl 5 rfl) ?_
                refine lv_iconst (v := nI 4) hx hb d_La_law_677 (by decide +kernel) ?_
                refine lv_iadd hx hb d_La_law_678 ?_
                refine aw_ti (nI_add (6 * t) 4) ?_
                refine va_sld hx hb hX hbl hbA hS (i := (nI ((6 * t) + 4))) (vp_in_nI (by omega) (by omega)) d_La_law_679 ?_
                refine aw_ti (y := nI mm) (by rw [nI_clamp (by omega)]; exact hm0.symm) ?_
                obtain ⟨_, he367⟩ := zr_M0 hSh
                refine va_calli (va_runV (As := [.int (nI j), .int x366, .int (nI k), .int (nI mm)]) (rest := []) ⟨hx, hb, hml, hown, hG⟩ (k_Mo_feedXsV l D g ad N0 zG zO zX zY zA zB zM zI zL zK zN zF zQ j x366 k mm hj (by omega) (by omega)) (aw_wV 4 hG gw_12_26 gw_12_23 gw_0_10 gw_12_24 gw_12_25 rfl rfl hd_Mo_feed ⟨Nat.le_of_ble_eq_true rfl, Nat.le_of_ble_eq_true rfl⟩) (ag_qV (va_recv hK hP rfl he367) hP hD hSh hU hS) rfl rfl hl.1 rfl (lv_room (Nat.le_of_ble_eq_true rfl)) d_La_law_680 ⟨by omega, by omega⟩) hS (fun _ _ h => h) (fun _ h => h) ?_
                clear hP hD hSh hS he367
                intro x368 u8 t8 H locs ht _ ex368 hB _ _ hS
                obtain ⟨L, hP, hD, hSh⟩ := hB
                rw [ht] at hP
                clear ht
                have ex368 := ex368.symm
                refine lv_istore hx hb d_La_law_683 hl (by decide) rfl (fun ls hl => ?_)
                have hl : lv_has ls 8 [(6, .int x368), (5, .int (nI 2)), (0, .ref b), (1, .ref (aw_r ad 0)), (2, .ref (aw_m ad 0)), (3, .ref (aw_o ad)), (4, .int (nI (6 * t)))] := hl
                refine lv_goto (tgt := 837) hx hb d_La_law_685 (by decide) ?_
                refine lv_iinc (k := 6) (v := nI (6 * t + 6)) hx hb d_La_law_837 hl rfl (aw_inc (6 * t) 6 6 (by decide +kernel)) (by decide) rfl (fun ls hl => ?_)
                have hl : lv_has ls 8 [(4, .int (nI (6 * t + 6))), (6, .int x368), (5, .int (nI 2)), (0, .ref b), (1, .ref (aw_r ad 0)), (2, .ref (aw_m ad 0)), (3, .ref (aw_o ad))] := hl
                refine lv_goto (tgt := 23) hx hb d_La_law_840 (by decide) ?_
                have hl := lv_sub hl (l' := [(0, .ref b), (1, .ref (aw_r ad 0)), (2, .ref (aw_m ad 0)), (3, .ref (aw_o ad)), (4, .int (nI (6 * t + 6)))]) [3, 4, 5, 6, 0] rfl
                refine W.widen (k := 85 + (t + 1)) (n := 1246 + 6 * (t + 1)) (by omega) (by omega) ?_
                exact ih (t + 1) zG zO zX zY zA zB zM zI zL zK zN (nI 2) zQ _ _ L ls (by omega) hP hD hSh hR hS (by first | exact hl | simpa [Nat.mul_add] using hl)
              refine lv_if_eq (tgt := 667) hx hb d_La_law_660 (by decide) (fun h9 => ?_) (fun h9 => ?_)
              · refine lv_iconst (v := nI 0) hx hb d_La_law_667 (by decide +kernel) ?_
                exact hj365 _ (if_pos h9)
              · refine lv_iconst (v := nI 1) hx hb d_La_law_663 (by decide +kernel) ?_
                refine lv_goto (tgt := 668) hx hb d_La_law_664 (by decide) ?_
                exact hj365 _ (if_neg h9)
            refine lv_if_eq (tgt := 628) hx hb d_La_law_621 (by decide) (fun h9 => ?_) (fun h9 => ?_)
            · refine lv_iconst (v := nI 0) hx hb d_La_law_628 (by decide +kernel) ?_
              exact hj362 _ (if_pos h9)
            · refine lv_iconst (v := nI 1) hx hb d_La_law_624 (by decide +kernel) ?_
              refine lv_goto (tgt := 629) hx hb d_La_law_625 (by decide) ?_
              exact hj362 _ (if_neg h9)
    · refine aw_ti (y := nI 10) (by rw [hs3]) ?_
      refine lv_tableIn (tgt := 688) (off := 648) hx hb d_La_law_40 (by decide +kernel) (by decide +kernel) (by decide +kernel) (by decide) ?_
      obtain ⟨c0, hc0⟩ : ∃ z : Int32, z = xs (6 * t + 1) := ⟨_, rfl⟩
      obtain ⟨s2, hs2⟩ : ∃ z : Int32, z = xs (6 * t + 2) := ⟨_, rfl⟩
      obtain ⟨s3, hs3⟩ : ∃ z : Int32, z = xs (6 * t + 3) := ⟨_, rfl⟩
      rcases aw_rng 4 (by decide) c0 with hc | ⟨j, hj, rfl⟩
      · refine lv_aload_n hx hb d_La_law_688 rfl (lv_at hl 1 rfl) ?_
        refine lv_aload_n hx hb d_La_law_689 rfl (lv_at hl 0 rfl) ?_
        refine lv_iload hx hb d_La_law_690 (lv_at hl 4 rfl) ?_
        refine lv_iconst (v := nI 1) hx hb d_La_law_692 (by decide +kernel) ?_
        refine lv_iadd hx hb d_La_law_693 ?_
        refine aw_ti (nI_add (6 * t) 1) ?_
        refine va_sld hx hb hX hbl hbA hS (i := (nI ((6 * t) + 1))) (vp_in_nI (by omega) (by omega)) d_La_law_694 ?_
        refine aw_ti (y := c0) (by rw [nI_clamp (by omega)]; exact hc0.symm) ?_
        refine lv_aload_n hx hb d_La_law_695 rfl (lv_at hl 0 rfl) ?_
        refine lv_iload hx hb d_La_law_696 (lv_at hl 4 rfl) ?_
        refine lv_iconst (v := nI 2) hx hb d_La_law_698 (by decide +kernel) ?_
        refine lv_iadd hx hb d_La_law_699 ?_
        refine aw_ti (nI_add (6 * t) 2) ?_
        refine va_sld hx hb hX hbl hbA hS (i := (nI ((6 * t) + 2))) (vp_in_nI (by omega) (by omega)) d_La_law_700 ?_
        refine aw_ti (y := s2) (by rw [nI_clamp (by omega)]; exact hs2.symm) ?_
        refine lv_i2l hx hb d_La_law_701 rfl ?_
        refine ag_topl (fun y369 ey369 => ?_)
        refine lv_bipush (v := nI 32) hx hb d_La_law_702 (by decide +kernel) ?_
        refine lv_lshl hx hb d_La_law_704 rfl ?_
        refine ag_topl (fun y370 ey370 => ?_)
        refine lv_aload_n hx hb d_La_law_705 rfl (lv_at hl 0 rfl) ?_
        refine lv_iload hx hb d_La_law_706 (lv_at hl 4 rfl) ?_
        refine lv_iconst (v := nI 3) hx hb d_La_law_708 (by decide +kernel) ?_
        refine lv_iadd hx hb d_La_law_709 ?_
        refine aw_ti (nI_add (6 * t) 3) ?_
        refine va_sld hx hb hX hbl hbA hS (i := (nI ((6 * t) + 3))) (vp_in_nI (by omega) (by omega)) d_La_law_710 ?_
        refine aw_ti (y := s3) (by rw [nI_clamp (by omega)]; exact hs3.symm) ?_
        refine lv_i2l hx hb d_La_law_711 rfl ?_
        refine ag_topl (fun y371 ey371 => ?_)
        refine lv_ldc2 (v := 4294967295) hx hb hown (hG _ gw_13_3) d_La_law_712 ?_
        refine lv_land hx hb d_La_law_715 ?_
        refine ag_topl (fun y372 ey372 => ?_)
        refine lv_lor hx hb d_La_law_716 ?_
        refine ag_topl (fun y373 ey373 => ?_)
        refine va_calli (vx_runSW (As := [.ref (aw_r ad 0), .int c0, .long y373]) (rest := []) ⟨hx, hb, hml, hown, hG⟩ (k_La_seekXcV l hst D g ad N0 zG zO zX zY zA zB zM zI zL zK zN zF zQ c0 y373 hc) (aw_wW 3 hG gw_8_26 gw_8_24 gw_0_0 gw_8_25 rfl rfl hd_La_seek ⟨Nat.le_of_ble_eq_true rfl, Nat.le_of_ble_eq_true rfl⟩) (ag_qS hP hD hSh hU hS) rfl rfl hl.1 rfl (lv_room (Nat.le_of_ble_eq_true rfl)) d_La_law_717 ⟨by omega, by omega⟩) hS (fun _ _ h => h) (fun _ h => h) ?_
        clear hP hD hSh hS
        intro x374 u8 t8 H locs ht _ ex374 hB _ _ hS
        obtain ⟨L, hP, hD, hSh⟩ := hB
        rw [ht] at hP
        clear ht
        subst ex374
        refine lv_istore hx hb d_La_law_720 hl (by decide) rfl (fun ls hl => ?_)
        have hl : lv_has ls 8 [(5, .int (nI 1)), (0, .ref b), (1, .ref (aw_r ad 0)), (2, .ref (aw_m ad 0)), (3, .ref (aw_o ad)), (4, .int (nI (6 * t)))] := hl
        refine lv_aload_n hx hb d_La_law_722 rfl (lv_at hl 3 rfl) ?_
        refine lv_aload_n hx hb d_La_law_723 rfl (lv_at hl 1 rfl) ?_
        refine lv_iload hx hb d_La_law_724 (lv_at hl 5 rfl) ?_
        refine lv_iconst (v := nI 1) hx hb d_La_law_726 (by decide +kernel) ?_
        refine lv_iadd hx hb d_La_law_727 ?_
        refine aw_ti (nI_add (6 * t) 1) ?_
        refine va_sld hx hb hX hbl hbA hS (i := (nI ((6 * t) + 1))) (vp_in_nI (by omega) (by omega)) d_La_law_728 ?_
        refine aw_ti (y := c0) (by rw [nI_clamp (by omega)]; exact hc0.symm) ?_
        refine lv_aload_n hx hb d_La_law_729 rfl (lv_at hl 1 rfl) ?_
        refine lv_iload hx hb d_La_law_730 (lv_at hl 5 rfl) ?_
        refine lv_iconst (v := nI 2) hx hb d_La_law_732 (by decide +kernel) ?_
        refine lv_iadd hx hb d_La_law_733 ?_
        refine aw_ti (nI_add (6 * t) 2) ?_
        refine va_sld hx hb hX hbl hbA hS (i := (nI ((6 * t) + 2))) (vp_in_nI (by omega) (by omega)) d_La_law_734 ?_
        refine aw_ti (y := s2) (by rw [nI_clamp (by omega)]; exact hs2.symm) ?_
        refine lv_i2l hx hb d_La_law_735 rfl ?_
        refine ag_topl (fun y375 ey375 => ?_)
        refine lv_bipush (v := nI 32) hx hb d_La_law_736 (by decide +kernel) ?_
        refine lv_lshl hx hb d_La_law_738 rfl ?_
        refine ag_topl (fun y376 ey376 => ?_)
        refine lv_aload_n hx hb d_La_law_739 rfl (lv_at hl 1 rfl) ?_
        refine lv_iload hx hb d_La_law_740 (lv_at hl 5 rfl) ?_
        refine lv_iconst (v := nI 3) hx hb d_La_law_742 (by decide +kernel) ?_
        refine lv_iadd hx hb d_La_law_743 ?_
        refine aw_ti (nI_add (6 * t) 3) ?_
        refine va_sld hx hb hX hbl hbA hS (i := (nI ((6 * t) + 3))) (vp_in_nI (by omega) (by omega)) d_La_law_744 ?_
        refine aw_ti (y := s3) (by rw [nI_clamp (by omega)]; exact hs3.symm) ?_
        refine lv_i2l hx hb d_La_law_745 rfl ?_
        refine ag_topl (fun y377 ey377 => ?_)
        refine lv_ldc2 (v := 4294967295) hx hb hown (hG _ gw_13_3) d_La_law_746 ?_
        refine lv_land hx hb d_La_law_749 ?_
        refine ag_topl (fun y378 ey378 => ?_)
        refine lv_lor hx hb d_La_law_750 ?_
        refine ag_topl (fun y379 ey379 => ?_)
        obtain ⟨_, he380⟩ := zr_M0 hSh
        refine va_callv (va_runV (As := [.int c0, .long y379]) (rest := []) ⟨hx, hb, hml, hown, hG⟩ (k_Mo_seekXcV l D g ad N0 zG zO zX zY zA zB zM zI zL zK zN zF zQ c0 y379 hc) (aw_wV 2 hG gw_12_45 gw_12_42 gw_0_10 gw_12_43 gw_12_44 rfl rfl hd_Mo_seek ⟨Nat.le_of_ble_eq_true rfl, Nat.le_of_ble_eq_true rfl⟩) (ag_qV (va_recv hK hP rfl he380) hP hD hSh hU hS) rfl rfl hl.1 rfl (lv_room (Nat.le_of_ble_eq_true rfl)) d_La_law_751 ⟨by omega, by omega⟩) hS (fun _ _ h => h) (fun _ h => h) ?_
        clear hP hD hSh hS he380
        intro u8 t8 H locs ht _ _ hB _ _ hS
        obtain ⟨L, hP, hD, hSh⟩ := hB
        rw [ht] at hP
        clear ht
        refine lv_goto (tgt := 837) hx hb d_La_law_754 (by decide) ?_
        refine lv_iinc (k := 5) (v := nI (6 * t + 6)) hx hb d_La_law_837 hl rfl (aw_inc (6 * t) 6 6 (by decide +kernel)) (by decide) rfl (fun ls hl => ?_)
        have hl : lv_has ls 8 [(4, .int (nI (6 * t + 6))), (5, .int (nI 1)), (0, .ref b), (1, .ref (aw_r ad 0)), (2, .ref (aw_m ad 0)), (3, .ref (aw_o ad))] := hl
        refine lv_goto (tgt := 23) hx hb d_La_law_840 (by decide) ?_
        have hl := lv_sub hl (l' := [(0, .ref b), (1, .ref (aw_r ad 0)), (2, .ref (aw_m ad 0)), (3, .ref (aw_o ad)), (4, .int (nI (6 * t + 6)))]) [2, 3, 4, 5, 0] rfl
        refine W.widen (k := 85 + (t + 1)) (n := 1246 + 6 * (t + 1)) (by omega) (by omega) ?_
        exact ih (t + 1) zG zO zX zY zA zB zM zI zL zK zN (nI 1) zQ _ _ L ls (by omega) hP hD hSh hR hS (by first | exact hl | simpa [Nat.mul_add] using hl)
      · have hgj := hSh.2.2.2.2.1 j hj
        have hq1 : (zM j).1 = (zG j).1 := by rw [hR.1 j hj]
        have hq2 : (zM j).2 = (zG j).2 := by rw [hR.1 j hj]
        by_cases hs : (zG j).1 = 3 ∧ (zG j).2 = 4
        · refine lv_aload_n hx hb d_La_law_688 rfl (lv_at hl 1 rfl) ?_
          refine lv_aload_n hx hb d_La_law_689 rfl (lv_at hl 0 rfl) ?_
          refine lv_iload hx hb d_La_law_690 (lv_at hl 4 rfl) ?_
          refine lv_iconst (v := nI 1) hx hb d_La_law_692 (by decide +kernel) ?_
          refine lv_iadd hx hb d_La_law_693 ?_
          refine aw_ti (nI_add (6 * t) 1) ?_
          refine va_sld hx hb hX hbl hbA hS (i := (nI ((6 * t) + 1))) (vp_in_nI (by omega) (by omega)) d_La_law_694 ?_
          refine aw_ti (y := nI j) (by rw [nI_clamp (by omega)]; exact hc0.symm) ?_
          refine lv_aload_n hx hb d_La_law_695 rfl (lv_at hl 0 rfl) ?_
          refine lv_iload hx hb d_La_law_696 (lv_at hl 4 rfl) ?_
          refine lv_iconst (v := nI 2) hx hb d_La_law_698 (by decide +kernel) ?_
          refine lv_iadd hx hb d_La_law_699 ?_
          refine aw_ti (nI_add (6 * t) 2) ?_
          refine va_sld hx hb hX hbl hbA hS (i := (nI ((6 * t) + 2))) (vp_in_nI (by omega) (by omega)) d_La_law_700 ?_
          refine aw_ti (y := s2) (by rw [nI_clamp (by omega)]; exact hs2.symm) ?_
          refine lv_i2l hx hb d_La_law_701 rfl ?_
          refine ag_topl (fun y381 ey381 => ?_)
          refine lv_bipush (v := nI 32) hx hb d_La_law_702 (by decide +kernel) ?_
          refine lv_lshl hx hb d_La_law_704 rfl ?_
          refine ag_topl (fun y382 ey382 => ?_)
          refine lv_aload_n hx hb d_La_law_705 rfl (lv_at hl 0 rfl) ?_
          refine lv_iload hx hb d_La_law_706 (lv_at hl 4 rfl) ?_
          refine lv_iconst (v := nI 3) hx hb d_La_law_708 (by decide +kernel) ?_
          refine lv_iadd hx hb d_La_law_709 ?_
          refine aw_ti (nI_add (6 * t) 3) ?_
          refine va_sld hx hb hX hbl hbA hS (i := (nI ((6 * t) + 3))) (vp_in_nI (by omega) (by omega)) d_La_law_710 ?_
          refine aw_ti (y := s3) (by rw [nI_clamp (by omega)]; exact hs3.symm) ?_
          refine lv_i2l hx hb d_La_law_711 rfl ?_
          refine ag_topl (fun y383 ey383 => ?_)
          refine lv_ldc2 (v := 4294967295) hx hb hown (hG _ gw_13_3) d_La_law_712 ?_
          refine lv_land hx hb d_La_law_715 ?_
          refine ag_topl (fun y384 ey384 => ?_)
          refine lv_lor hx hb d_La_law_716 ?_
          refine ag_topl (fun y385 ey385 => ?_)
          refine va_calli (vx_runSW (As := [.ref (aw_r ad 0), .int (nI j), .long y385]) (rest := []) ⟨hx, hb, hml, hown, hG⟩ (k_La_seek1V l hst D g ad N0 zG zO zX zY zA zB zM zI zL zK zN zF zQ j y385 hj (by omega)) (aw_wW 3 hG gw_8_26 gw_8_24 gw_0_0 gw_8_25 rfl rfl hd_La_seek ⟨Nat.le_of_ble_eq_true rfl, Nat.le_of_ble_eq_true rfl⟩) (ag_qS hP hD hSh hU hS) rfl rfl hl.1 rfl (lv_room (Nat.le_of_ble_eq_true rfl)) d_La_law_717 ⟨by omega, by omega⟩) hS (fun _ _ h => h) (fun _ h => h) ?_
          clear hP hD hSh hS
          intro x386 u8 t8 H locs ht _ ex386 hB _ _ hS
          obtain ⟨L, hP, hD, hSh⟩ := hB
          rw [ht] at hP
          clear ht
          subst ex386
          obtain ⟨zX387, ezX387⟩ : ∃ z : Nat → Nat → Int64, v_La_seek1V_zX zX zY j y385 = z := ⟨_, rfl⟩
          rw [ezX387] at hSh
          obtain ⟨zY388, ezY388⟩ : ∃ z : Nat → Nat → Int32, v_La_seek1V_zY zX zY j y385 = z := ⟨_, rfl⟩
          rw [ezY388] at hSh
          refine lv_istore hx hb d_La_law_720 hl (by decide) rfl (fun ls hl => ?_)
          have hl : lv_has ls 8 [(5, .int (nI 0)), (0, .ref b), (1, .ref (aw_r ad 0)), (2, .ref (aw_m ad 0)), (3, .ref (aw_o ad)), (4, .int (nI (6 * t)))] := hl
          refine lv_aload_n hx hb d_La_law_722 rfl (lv_at hl 3 rfl) ?_
          refine lv_aload_n hx hb d_La_law_723 rfl (lv_at hl 1 rfl) ?_
          refine lv_iload hx hb d_La_law_724 (lv_at hl 5 rfl) ?_
          refine lv_iconst (v := nI 1) hx hb d_La_law_726 (by decide +kernel) ?_
          refine lv_iadd hx hb d_La_law_727 ?_
          refine aw_ti (nI_add (6 * t) 1) ?_
          refine va_sld hx hb hX hbl hbA hS (i := (nI ((6 * t) + 1))) (vp_in_nI (by omega) (by omega)) d_La_law_728 ?_
          refine aw_ti (y := nI j) (by rw [nI_clamp (by omega)]; exact hc0.symm) ?_
          refine lv_aload_n hx hb d_La_law_729 rfl (lv_at hl 1 rfl) ?_
          refine lv_iload hx hb d_La_law_730 (lv_at hl 5 rfl) ?_
          refine lv_iconst (v := nI 2) hx hb d_La_law_732 (by decide +kernel) ?_
          refine lv_iadd hx hb d_La_law_733 ?_
          refine aw_ti (nI_add (6 * t) 2) ?_
          refine va_sld hx hb hX hbl hbA hS (i := (nI ((6 * t) + 2))) (vp_in_nI (by omega) (by omega)) d_La_law_734 ?_
          refine aw_ti (y := s2) (by rw [nI_clamp (by omega)]; exact hs2.symm) ?_
          refine lv_i2l hx hb d_La_law_735 rfl ?_
          refine ag_topl (fun y389 ey389 => ?_)
          refine lv_bipush (v := nI 32) hx hb d_La_law_736 (by decide +kernel) ?_
          refine lv_lshl hx hb d_La_law_738 rfl ?_
          refine ag_topl (fun y390 ey390 => ?_)
          refine lv_aload_n hx hb d_La_law_739 rfl (lv_at hl 1 rfl) ?_
          refine lv_iload hx hb d_La_law_740 (lv_at hl 5 rfl) ?_
          refine lv_iconst (v := nI 3) hx hb d_La_law_742 (by decide +kernel) ?_
          refine lv_iadd hx hb d_La_law_743 ?_
          refine aw_ti (nI_add (6 * t) 3) ?_
          refine va_sld hx hb hX hbl hbA hS (i := (nI ((6 * t) + 3))) (vp_in_nI (by omega) (by omega)) d_La_law_744 ?_
          refine aw_ti (y := s3) (by rw [nI_clamp (by omega)]; exact hs3.symm) ?_
          refine lv_i2l hx hb d_La_law_745 rfl ?_
          refine ag_topl (fun y391 ey391 => ?_)
          refine lv_ldc2 (v := 4294967295) hx hb hown (hG _ gw_13_3) d_La_law_746 ?_
          refine lv_land hx hb d_La_law_749 ?_
          refine ag_topl (fun y392 ey392 => ?_)
          refine lv_lor hx hb d_La_law_750 ?_
          refine ag_topl (fun y393 ey393 => ?_)
          obtain ⟨_, he394⟩ := zr_M0 hSh
          refine va_callv (va_runV (As := [.int (nI j), .long y393]) (rest := []) ⟨hx, hb, hml, hown, hG⟩ (k_Mo_seek1V l D g ad N0 zG zO zX387 zY388 zA zB zM zI zL zK zN zF zQ j y393 hj (by omega)) (aw_wV 2 hG gw_12_45 gw_12_42 gw_0_10 gw_12_43 gw_12_44 rfl rfl hd_Mo_seek ⟨Nat.le_of_ble_eq_true rfl, Nat.le_of_ble_eq_true rfl⟩) (ag_qV (va_recv hK hP rfl he394) hP hD hSh hU hS) rfl rfl hl.1 rfl (lv_room (Nat.le_of_ble_eq_true rfl)) d_La_law_751 ⟨by omega, by omega⟩) hS (fun _ _ h => h) (fun _ h => h) ?_
          clear hP hD hSh hS he394
          intro u8 t8 H locs ht _ _ hB _ _ hS
          obtain ⟨L, hP, hD, hSh⟩ := hB
          rw [ht] at hP
          clear ht
          obtain ⟨zI395, ezI395⟩ : ∃ z : Nat → Nat → Int32, v_Mo_seek1V_zI zI zL j y393 = z := ⟨_, rfl⟩
          rw [ezI395] at hSh
          obtain ⟨zL396, ezL396⟩ : ∃ z : Nat → Nat → Int64, v_Mo_seek1V_zL zI zL j y393 = z := ⟨_, rfl⟩
          rw [ezL396] at hSh
          refine lv_goto (tgt := 837) hx hb d_La_law_754 (by decide) ?_
          refine lv_iinc (k := 5) (v := nI (6 * t + 6)) hx hb d_La_law_837 hl rfl (aw_inc (6 * t) 6 6 (by decide +kernel)) (by decide) rfl (fun ls hl => ?_)
          have hl : lv_has ls 8 [(4, .int (nI (6 * t + 6))), (5, .int (nI 0)), (0, .ref b), (1, .ref (aw_r ad 0)), (2, .ref (aw_m ad 0)), (3, .ref (aw_o ad))] := hl
          refine lv_goto (tgt := 23) hx hb d_La_law_840 (by decide) ?_
          have hl := lv_sub hl (l' := [(0, .ref b), (1, .ref (aw_r ad 0)), (2, .ref (aw_m ad 0)), (3, .ref (aw_o ad)), (4, .int (nI (6 * t + 6)))]) [2, 3, 4, 5, 0] rfl
          refine W.widen (k := 85 + (t + 1)) (n := 1246 + 6 * (t + 1)) (by omega) (by omega) ?_
          have hR : az_R zG zO zX387 zY388 zA zB zM zI395 zL396 := by
            subst ezL396 ezI395 ey393 ey392 ey391 ey390 ey389 ezY388 ezX387 ey385 ey384 ey383 ey382 ey381
            exact r_seek1 hR hj hs
          exact ih (t + 1) zG zO zX387 zY388 zA zB zM zI395 zL396 zK zN (nI 0) zQ _ _ L ls (by omega) hP hD hSh hR hS (by first | exact hl | simpa [Nat.mul_add] using hl)
        · refine lv_aload_n hx hb d_La_law_688 rfl (lv_at hl 1 rfl) ?_
          refine lv_aload_n hx hb d_La_law_689 rfl (lv_at hl 0 rfl) ?_
          refine lv_iload hx hb d_La_law_690 (lv_at hl 4 rfl) ?_
          refine lv_iconst (v := nI 1) hx hb d_La_law_692 (by decide +kernel) ?_
          refine lv_iadd hx hb d_La_law_693 ?_
          refine aw_ti (nI_add (6 * t) 1) ?_
          refine va_sld hx hb hX hbl hbA hS (i := (nI ((6 * t) + 1))) (vp_in_nI (by omega) (by omega)) d_La_law_694 ?_
          refine aw_ti (y := nI j) (by rw [nI_clamp (by omega)]; exact hc0.symm) ?_
          refine lv_aload_n hx hb d_La_law_695 rfl (lv_at hl 0 rfl) ?_
          refine lv_iload hx hb d_La_law_696 (lv_at hl 4 rfl) ?_
          refine lv_iconst (v := nI 2) hx hb d_La_law_698 (by decide +kernel) ?_
          refine lv_iadd hx hb d_La_law_699 ?_
          refine aw_ti (nI_add (6 * t) 2) ?_
          refine va_sld hx hb hX hbl hbA hS (i := (nI ((6 * t) + 2))) (vp_in_nI (by omega) (by omega)) d_La_law_700 ?_
          refine aw_ti (y := s2) (by rw [nI_clamp (by omega)]; exact hs2.symm) ?_
          refine lv_i2l hx hb d_La_law_701 rfl ?_
          refine ag_topl (fun y397 ey397 => ?_)
          refine lv_bipush (v := nI 32) hx hb d_La_law_702 (by decide +kernel) ?_
          refine lv_lshl hx hb d_La_law_704 rfl ?_
          refine ag_topl (fun y398 ey398 => ?_)
          refine lv_aload_n hx hb d_La_law_705 rfl (lv_at hl 0 rfl) ?_
          refine lv_iload hx hb d_La_law_706 (lv_at hl 4 rfl) ?_
          refine lv_iconst (v := nI 3) hx hb d_La_law_708 (by decide +kernel) ?_
          refine lv_iadd hx hb d_La_law_709 ?_
          refine aw_ti (nI_add (6 * t) 3) ?_
          refine va_sld hx hb hX hbl hbA hS (i := (nI ((6 * t) + 3))) (vp_in_nI (by omega) (by omega)) d_La_law_710 ?_
          refine aw_ti (y := s3) (by rw [nI_clamp (by omega)]; exact hs3.symm) ?_
          refine lv_i2l hx hb d_La_law_711 rfl ?_
          refine ag_topl (fun y399 ey399 => ?_)
          refine lv_ldc2 (v := 4294967295) hx hb hown (hG _ gw_13_3) d_La_law_712 ?_
          refine lv_land hx hb d_La_law_715 ?_
          refine ag_topl (fun y400 ey400 => ?_)
          refine lv_lor hx hb d_La_law_716 ?_
          refine ag_topl (fun y401 ey401 => ?_)
          refine va_calli (vx_runSW (As := [.ref (aw_r ad 0), .int (nI j), .long y401]) (rest := []) ⟨hx, hb, hml, hown, hG⟩ (k_La_seekXsV l hst D g ad N0 zG zO zX zY zA zB zM zI zL zK zN zF zQ j y401 hj (by omega)) (aw_wW 3 hG gw_8_26 gw_8_24 gw_0_0 gw_8_25 rfl rfl hd_La_seek ⟨Nat.le_of_ble_eq_true rfl, Nat.le_of_ble_eq_true rfl⟩) (ag_qS hP hD hSh hU hS) rfl rfl hl.1 rfl (lv_room (Nat.le_of_ble_eq_true rfl)) d_La_law_717 ⟨by omega, by omega⟩) hS (fun _ _ h => h) (fun _ h => h) ?_
          clear hP hD hSh hS
          intro x402 u8 t8 H locs ht _ ex402 hB _ _ hS
          obtain ⟨L, hP, hD, hSh⟩ := hB
          rw [ht] at hP
          clear ht
          subst ex402
          refine lv_istore hx hb d_La_law_720 hl (by decide) rfl (fun ls hl => ?_)
          have hl : lv_has ls 8 [(5, .int (nI 2)), (0, .ref b), (1, .ref (aw_r ad 0)), (2, .ref (aw_m ad 0)), (3, .ref (aw_o ad)), (4, .int (nI (6 * t)))] := hl
          refine lv_aload_n hx hb d_La_law_722 rfl (lv_at hl 3 rfl) ?_
          refine lv_aload_n hx hb d_La_law_723 rfl (lv_at hl 1 rfl) ?_
          refine lv_iload hx hb d_La_law_724 (lv_at hl 5 rfl) ?_
          refine lv_iconst (v := nI 1) hx hb d_La_law_726 (by decide +kernel) ?_
          refine lv_iadd hx hb d_La_law_727 ?_
          refine aw_ti (nI_add (6 * t) 1) ?_
          refine va_sld hx hb hX hbl hbA hS (i := (nI ((6 * t) + 1))) (vp_in_nI (by omega) (by omega)) d_La_law_728 ?_
          refine aw_ti (y := nI j) (by rw [nI_clamp (by omega)]; exact hc0.symm) ?_
          refine lv_aload_n hx hb d_La_law_729 rfl (lv_at hl 1 rfl) ?_
          refine lv_iload hx hb d_La_law_730 (lv_at hl 5 rfl) ?_
          refine lv_iconst (v := nI 2) hx hb d_La_law_732 (by decide +kernel) ?_
          refine lv_iadd hx hb d_La_law_733 ?_
          refine aw_ti (nI_add (6 * t) 2) ?_
          refine va_sld hx hb hX hbl hbA hS (i := (nI ((6 * t) + 2))) (vp_in_nI (by omega) (by omega)) d_La_law_734 ?_
          refine aw_ti (y := s2) (by rw [nI_clamp (by omega)]; exact hs2.symm) ?_
          refine lv_i2l hx hb d_La_law_735 rfl ?_
          refine ag_topl (fun y403 ey403 => ?_)
          refine lv_bipush (v := nI 32) hx hb d_La_law_736 (by decide +kernel) ?_
          refine lv_lshl hx hb d_La_law_738 rfl ?_
          refine ag_topl (fun y404 ey404 => ?_)
          refine lv_aload_n hx hb d_La_law_739 rfl (lv_at hl 1 rfl) ?_
          refine lv_iload hx hb d_La_law_740 (lv_at hl 5 rfl) ?_
          refine lv_iconst (v := nI 3) hx hb d_La_law_742 (by decide +kernel) ?_
          refine lv_iadd hx hb d_La_law_743 ?_
          refine aw_ti (nI_add (6 * t) 3) ?_
          refine va_sld hx hb hX hbl hbA hS (i := (nI ((6 * t) + 3))) (vp_in_nI (by omega) (by omega)) d_La_law_744 ?_
          refine aw_ti (y := s3) (by rw [nI_clamp (by omega)]; exact hs3.symm) ?_
          refine lv_i2l hx hb d_La_law_745 rfl ?_
          refine ag_topl (fun y405 ey405 => ?_)
          refine lv_ldc2 (v := 4294967295) hx hb hown (hG _ gw_13_3) d_La_law_746 ?_
          refine lv_land hx hb d_La_law_749 ?_
          refine ag_topl (fun y406 ey406 => ?_)
          refine lv_lor hx hb d_La_law_750 ?_
          refine ag_topl (fun y407 ey407 => ?_)
          obtain ⟨_, he408⟩ := zr_M0 hSh
          refine va_callv (va_runV (As := [.int (nI j), .long y407]) (rest := []) ⟨hx, hb, hml, hown, hG⟩ (k_Mo_seekXsV l D g ad N0 zG zO zX zY zA zB zM zI zL zK zN zF zQ j y407 hj (by omega)) (aw_wV 2 hG gw_12_45 gw_12_42 gw_0_10 gw_12_43 gw_12_44 rfl rfl hd_Mo_seek ⟨Nat.le_of_ble_eq_true rfl, Nat.le_of_ble_eq_true rfl⟩) (ag_qV (va_recv hK hP rfl he408) hP hD hSh hU hS) rfl rfl hl.1 rfl (lv_room (Nat.le_of_ble_eq_true rfl)) d_La_law_751 ⟨by omega, by omega⟩) hS (fun _ _ h => h) (fun _ h => h) ?_
          clear hP hD hSh hS he408
          intro u8 t8 H locs ht _ _ hB _ _ hS
          obtain ⟨L, hP, hD, hSh⟩ := hB
          rw [ht] at hP
          clear ht
          refine lv_goto (tgt := 837) hx hb d_La_law_754 (by decide) ?_
          refine lv_iinc (k := 5) (v := nI (6 * t + 6)) hx hb d_La_law_837 hl rfl (aw_inc (6 * t) 6 6 (by decide +kernel)) (by decide) rfl (fun ls hl => ?_)
          have hl : lv_has ls 8 [(4, .int (nI (6 * t + 6))), (5, .int (nI 2)), (0, .ref b), (1, .ref (aw_r ad 0)), (2, .ref (aw_m ad 0)), (3, .ref (aw_o ad))] := hl
          refine lv_goto (tgt := 23) hx hb d_La_law_840 (by decide) ?_
          have hl := lv_sub hl (l' := [(0, .ref b), (1, .ref (aw_r ad 0)), (2, .ref (aw_m ad 0)), (3, .ref (aw_o ad)), (4, .int (nI (6 * t + 6)))]) [2, 3, 4, 5, 0] rfl
          refine W.widen (k := 85 + (t + 1)) (n := 1246 + 6 * (t + 1)) (by omega) (by omega) ?_
          exact ih (t + 1) zG zO zX zY zA zB zM zI zL zK zN (nI 2) zQ _ _ L ls (by omega) hP hD hSh hR hS (by first | exact hl | simpa [Nat.mul_add] using hl)
    · refine aw_ti (y := nI 11) (by rw [hs3]) ?_
      refine lv_tableIn (tgt := 757) (off := 717) hx hb d_La_law_40 (by decide +kernel) (by decide +kernel) (by decide +kernel) (by decide) ?_
      obtain ⟨c0, hc0⟩ : ∃ z : Int32, z = xs (6 * t + 1) := ⟨_, rfl⟩
      obtain ⟨fr, hfr⟩ : ∃ z : Int32, z = xs (6 * t + 2) := ⟨_, rfl⟩
      obtain ⟨m0, hm0⟩ : ∃ z : Int32, z = xs (6 * t + 3) := ⟨_, rfl⟩
      rcases aw_rng 4 (by decide) c0 with hc | ⟨j, hj, rfl⟩
      · refine lv_aload_n hx hb d_La_law_757 rfl (lv_at hl 1 rfl) ?_
        refine lv_aload_n hx hb d_La_law_758 rfl (lv_at hl 0 rfl) ?_
        refine lv_iload hx hb d_La_law_759 (lv_at hl 4 rfl) ?_
        refine lv_iconst (v := nI 1) hx hb d_La_law_761 (by decide +kernel) ?_
        refine lv_iadd hx hb d_La_law_762 ?_
        refine aw_ti (nI_add (6 * t) 1) ?_
        refine va_sld hx hb hX hbl hbA hS (i := (nI ((6 * t) + 1))) (vp_in_nI (by omega) (by omega)) d_La_law_763 ?_
        refine aw_ti (y := c0) (by rw [nI_clamp (by omega)]; exact hc0.symm) ?_
        refine lv_aload_n hx hb d_La_law_764 rfl (lv_at hl 0 rfl) ?_
        refine lv_iload hx hb d_La_law_765 (lv_at hl 4 rfl) ?_
        refine lv_iconst (v := nI 2) hx hb d_La_law_767 (by decide +kernel) ?_
        refine lv_iadd hx hb d_La_law_768 ?_
        refine aw_ti (nI_add (6 * t) 2) ?_
        refine va_sld hx hb hX hbl hbA hS (i := (nI ((6 * t) + 2))) (vp_in_nI (by omega) (by omega)) d_La_law_769 ?_
        refine aw_ti (y := fr) (by rw [nI_clamp (by omega)]; exact hfr.symm) ?_
        refine lv_aload_n hx hb d_La_law_770 rfl (lv_at hl 0 rfl) ?_
        refine lv_iload hx hb d_La_law_771 (lv_at hl 4 rfl) ?_
        refine lv_iconst (v := nI 3) hx hb d_La_law_773 (by decide +kernel) ?_
        refine lv_iadd hx hb d_La_law_774 ?_
        refine aw_ti (nI_add (6 * t) 3) ?_
        refine va_sld hx hb hX hbl hbA hS (i := (nI ((6 * t) + 3))) (vp_in_nI (by omega) (by omega)) d_La_law_775 ?_
        refine aw_ti (y := m0) (by rw [nI_clamp (by omega)]; exact hm0.symm) ?_
        refine lv_aload_n hx hb d_La_law_776 rfl (lv_at hl 3 rfl) ?_
        refine va_calli (vx_runSW (As := [.ref (aw_r ad 0), .int c0, .int fr, .int m0, .ref (aw_o ad)]) (rest := []) ⟨hx, hb, hml, hown, hG⟩ (k_La_takeXcV l hst D g ad N0 zG zO zX zY zA zB zM zI zL zK zN zF zQ c0 fr m0 hc) (aw_wW 5 hG gw_8_40 gw_8_38 gw_0_0 gw_8_39 rfl rfl hd_La_take ⟨Nat.le_of_ble_eq_true rfl, Nat.le_of_ble_eq_true rfl⟩) (ag_qS hP hD hSh hU hS) rfl rfl hl.1 rfl (lv_room (Nat.le_of_ble_eq_true rfl)) d_La_law_777 ⟨by omega, by omega⟩) hS (fun _ _ h => h) (fun _ h => h) ?_
        clear hP hD hSh hS
        intro x409 u8 t8 H locs ht _ ex409 hB _ _ hS
        obtain ⟨L, hP, hD, hSh⟩ := hB
        rw [ht] at hP
        clear ht
        subst ex409
        refine lv_istore hx hb d_La_law_780 hl (by decide) rfl (fun ls hl => ?_)
        have hl : lv_has ls 8 [(5, .int (nI 1)), (0, .ref b), (1, .ref (aw_r ad 0)), (2, .ref (aw_m ad 0)), (3, .ref (aw_o ad)), (4, .int (nI (6 * t)))] := hl
        refine lv_aload_n hx hb d_La_law_782 rfl (lv_at hl 3 rfl) ?_
        refine lv_aload_n hx hb d_La_law_783 rfl (lv_at hl 1 rfl) ?_
        refine lv_iload hx hb d_La_law_784 (lv_at hl 5 rfl) ?_
        refine lv_iconst (v := nI 1) hx hb d_La_law_786 (by decide +kernel) ?_
        refine lv_iadd hx hb d_La_law_787 ?_
        refine aw_ti (nI_add (6 * t) 1) ?_
        refine va_sld hx hb hX hbl hbA hS (i := (nI ((6 * t) + 1))) (vp_in_nI (by omega) (by omega)) d_La_law_788 ?_
        refine aw_ti (y := c0) (by rw [nI_clamp (by omega)]; exact hc0.symm) ?_
        refine lv_aload_n hx hb d_La_law_789 rfl (lv_at hl 1 rfl) ?_
        refine lv_iload hx hb d_La_law_790 (lv_at hl 5 rfl) ?_
        refine lv_iconst (v := nI 2) hx hb d_La_law_792 (by decide +kernel) ?_
        refine lv_iadd hx hb d_La_law_793 ?_
        refine aw_ti (nI_add (6 * t) 2) ?_
        refine va_sld hx hb hX hbl hbA hS (i := (nI ((6 * t) + 2))) (vp_in_nI (by omega) (by omega)) d_La_law_794 ?_
        refine aw_ti (y := fr) (by rw [nI_clamp (by omega)]; exact hfr.symm) ?_
        refine lv_aload_n hx hb d_La_law_795 rfl (lv_at hl 1 rfl) ?_
        refine lv_iload hx hb d_La_law_796 (lv_at hl 5 rfl) ?_
        refine lv_iconst (v := nI 3) hx hb d_La_law_798 (by decide +kernel) ?_
        refine lv_iadd hx hb d_La_law_799 ?_
        refine aw_ti (nI_add (6 * t) 3) ?_
        refine va_sld hx hb hX hbl hbA hS (i := (nI ((6 * t) + 3))) (vp_in_nI (by omega) (by omega)) d_La_law_800 ?_
        refine aw_ti (y := m0) (by rw [nI_clamp (by omega)]; exact hm0.symm) ?_
        obtain ⟨_, he410⟩ := zr_M0 hSh
        refine va_calli (va_runV (As := [.int c0, .int fr, .int m0]) (rest := []) ⟨hx, hb, hml, hown, hG⟩ (k_Mo_takeXcV l D g ad N0 zG zO zX zY zA zB zM zI zL zK zN zF zQ c0 fr m0 hc) (aw_wV 3 hG gw_12_49 gw_12_46 gw_0_10 gw_12_47 gw_12_48 rfl rfl hd_Mo_take ⟨Nat.le_of_ble_eq_true rfl, Nat.le_of_ble_eq_true rfl⟩) (ag_qV (va_recv hK hP rfl he410) hP hD hSh hU hS) rfl rfl hl.1 rfl (lv_room (Nat.le_of_ble_eq_true rfl)) d_La_law_801 ⟨by omega, by omega⟩) hS (fun _ _ h => h) (fun _ h => h) ?_
        clear hP hD hSh hS he410
        intro x411 u8 t8 H locs ht _ ex411 hB _ _ hS
        obtain ⟨L, hP, hD, hSh⟩ := hB
        rw [ht] at hP
        clear ht
        have ex411 := ex411.symm
        refine lv_istore hx hb d_La_law_804 hl (by decide) rfl (fun ls hl => ?_)
        have hl : lv_has ls 8 [(6, .int x411), (5, .int (nI 1)), (0, .ref b), (1, .ref (aw_r ad 0)), (2, .ref (aw_m ad 0)), (3, .ref (aw_o ad)), (4, .int (nI (6 * t)))] := hl
        refine lv_goto (tgt := 837) hx hb d_La_law_806 (by decide) ?_
        refine lv_iinc (k := 6) (v := nI (6 * t + 6)) hx hb d_La_law_837 hl rfl (aw_inc (6 * t) 6 6 (by decide +kernel)) (by decide) rfl (fun ls hl => ?_)
        have hl : lv_has ls 8 [(4, .int (nI (6 * t + 6))), (6, .int x411), (5, .int (nI 1)), (0, .ref b), (1, .ref (aw_r ad 0)), (2, .ref (aw_m ad 0)), (3, .ref (aw_o ad))] := hl
        refine lv_goto (tgt := 23) hx hb d_La_law_840 (by decide) ?_
        have hl := lv_sub hl (l' := [(0, .ref b), (1, .ref (aw_r ad 0)), (2, .ref (aw_m ad 0)), (3, .ref (aw_o ad)), (4, .int (nI (6 * t + 6)))]) [3, 4, 5, 6, 0] rfl
        refine W.widen (k := 85 + (t + 1)) (n := 1246 + 6 * (t + 1)) (by omega) (by omega) ?_
        exact ih (t + 1) zG zO zX zY zA zB zM zI zL zK zN (nI 1) zQ _ _ L ls (by omega) hP hD hSh hR hS (by first | exact hl | simpa [Nat.mul_add] using hl)
      · have hgj := hSh.2.2.2.2.1 j hj
        have hq1 : (zM j).1 = (zG j).1 := by rw [hR.1 j hj]
        have hq2 : (zM j).2 = (zG j).2 := by rw [hR.1 j hj]
        rcases aw_buf fr m0 with hi | rfl | ⟨k, mm, rfl, rfl, h0, hk⟩
        · have hi2 := aw_bp hi
          refine lv_aload_n hx hb d_La_law_757 rfl (lv_at hl 1 rfl) ?_
          refine lv_aload_n hx hb d_La_law_758 rfl (lv_at hl 0 rfl) ?_
          refine lv_iload hx hb d_La_law_759 (lv_at hl 4 rfl) ?_
          refine lv_iconst (v := nI 1) hx hb d_La_law_761 (by decide +kernel) ?_
          refine lv_iadd hx hb d_La_law_762 ?_
          refine aw_ti (nI_add (6 * t) 1) ?_
          refine va_sld hx hb hX hbl hbA hS (i := (nI ((6 * t) + 1))) (vp_in_nI (by omega) (by omega)) d_La_law_763 ?_
          refine aw_ti (y := nI j) (by rw [nI_clamp (by omega)]; exact hc0.symm) ?_
          refine lv_aload_n hx hb d_La_law_764 rfl (lv_at hl 0 rfl) ?_
          refine lv_iload hx hb d_La_law_765 (lv_at hl 4 rfl) ?_
          refine lv_iconst (v := nI 2) hx hb d_La_law_767 (by decide +kernel) ?_
          refine lv_iadd hx hb d_La_law_768 ?_
          refine aw_ti (nI_add (6 * t) 2) ?_
          refine va_sld hx hb hX hbl hbA hS (i := (nI ((6 * t) + 2))) (vp_in_nI (by omega) (by omega)) d_La_law_769 ?_
          refine aw_ti (y := fr) (by rw [nI_clamp (by omega)]; exact hfr.symm) ?_
          refine lv_aload_n hx hb d_La_law_770 rfl (lv_at hl 0 rfl) ?_
          refine lv_iload hx hb d_La_law_771 (lv_at hl 4 rfl) ?_
          refine lv_iconst (v := nI 3) hx hb d_La_law_773 (by decide +kernel) ?_
          refine lv_iadd hx hb d_La_law_774 ?_
          refine aw_ti (nI_add (6 * t) 3) ?_
          refine va_sld hx hb hX hbl hbA hS (i := (nI ((6 * t) + 3))) (vp_in_nI (by omega) (by omega)) d_La_law_775 ?_
          refine aw_ti (y := m0) (by rw [nI_clamp (by omega)]; exact hm0.symm) ?_
          refine lv_aload_n hx hb d_La_law_776 rfl (lv_at hl 3 rfl) ?_
          refine va_calli (vx_runSW (As := [.ref (aw_r ad 0), .int (nI j), .int fr, .int m0, .ref (aw_o ad)]) (rest := []) ⟨hx, hb, hml, hown, hG⟩ (k_La_takeXbV l hst D g ad N0 zG zO zX zY zA zB zM zI zL zK zN zF zQ j fr m0 hj hi) (aw_wW 5 hG gw_8_40 gw_8_38 gw_0_0 gw_8_39 rfl rfl hd_La_take ⟨Nat.le_of_ble_eq_true rfl, Nat.le_of_ble_eq_true rfl⟩) (ag_qS hP hD hSh hU hS) rfl rfl hl.1 rfl (lv_room (Nat.le_of_ble_eq_true rfl)) d_La_law_777 ⟨by omega, by omega⟩) hS (fun _ _ h => h) (fun _ h => h) ?_
          clear hP hD hSh hS
          intro x412 u8 t8 H locs ht _ ex412 hB _ _ hS
          obtain ⟨L, hP, hD, hSh⟩ := hB
          rw [ht] at hP
          clear ht
          subst ex412
          refine lv_istore hx hb d_La_law_780 hl (by decide) rfl (fun ls hl => ?_)
          have hl : lv_has ls 8 [(5, .int (nI 1)), (0, .ref b), (1, .ref (aw_r ad 0)), (2, .ref (aw_m ad 0)), (3, .ref (aw_o ad)), (4, .int (nI (6 * t)))] := hl
          refine lv_aload_n hx hb d_La_law_782 rfl (lv_at hl 3 rfl) ?_
          refine lv_aload_n hx hb d_La_law_783 rfl (lv_at hl 1 rfl) ?_
          refine lv_iload hx hb d_La_law_784 (lv_at hl 5 rfl) ?_
          refine lv_iconst (v := nI 1) hx hb d_La_law_786 (by decide +kernel) ?_
          refine lv_iadd hx hb d_La_law_787 ?_
          refine aw_ti (nI_add (6 * t) 1) ?_
          refine va_sld hx hb hX hbl hbA hS (i := (nI ((6 * t) + 1))) (vp_in_nI (by omega) (by omega)) d_La_law_788 ?_
          refine aw_ti (y := nI j) (by rw [nI_clamp (by omega)]; exact hc0.symm) ?_
          refine lv_aload_n hx hb d_La_law_789 rfl (lv_at hl 1 rfl) ?_
          refine lv_iload hx hb d_La_law_790 (lv_at hl 5 rfl) ?_
          refine lv_iconst (v := nI 2) hx hb d_La_law_792 (by decide +kernel) ?_
          refine lv_iadd hx hb d_La_law_793 ?_
          refine aw_ti (nI_add (6 * t) 2) ?_
          refine va_sld hx hb hX hbl hbA hS (i := (nI ((6 * t) + 2))) (vp_in_nI (by omega) (by omega)) d_La_law_794 ?_
          refine aw_ti (y := fr) (by rw [nI_clamp (by omega)]; exact hfr.symm) ?_
          refine lv_aload_n hx hb d_La_law_795 rfl (lv_at hl 1 rfl) ?_
          refine lv_iload hx hb d_La_law_796 (lv_at hl 5 rfl) ?_
          refine lv_iconst (v := nI 3) hx hb d_La_law_798 (by decide +kernel) ?_
          refine lv_iadd hx hb d_La_law_799 ?_
          refine aw_ti (nI_add (6 * t) 3) ?_
          refine va_sld hx hb hX hbl hbA hS (i := (nI ((6 * t) + 3))) (vp_in_nI (by omega) (by omega)) d_La_law_800 ?_
          refine aw_ti (y := m0) (by rw [nI_clamp (by omega)]; exact hm0.symm) ?_
          obtain ⟨_, he413⟩ := zr_M0 hSh
          refine va_calli (va_runV (As := [.int (nI j), .int fr, .int m0]) (rest := []) ⟨hx, hb, hml, hown, hG⟩ (k_Mo_takeXbV l D g ad N0 zG zO zX zY zA zB zM zI zL zK zN zF zQ j fr m0 hj hi2) (aw_wV 3 hG gw_12_49 gw_12_46 gw_0_10 gw_12_47 gw_12_48 rfl rfl hd_Mo_take ⟨Nat.le_of_ble_eq_true rfl, Nat.le_of_ble_eq_true rfl⟩) (ag_qV (va_recv hK hP rfl he413) hP hD hSh hU hS) rfl rfl hl.1 rfl (lv_room (Nat.le_of_ble_eq_true rfl)) d_La_law_801 ⟨by omega, by omega⟩) hS (fun _ _ h => h) (fun _ h => h) ?_
          clear hP hD hSh hS he413
          intro x414 u8 t8 H locs ht _ ex414 hB _ _ hS
          obtain ⟨L, hP, hD, hSh⟩ := hB
          rw [ht] at hP
          clear ht
          have ex414 := ex414.symm
          refine lv_istore hx hb d_La_law_804 hl (by decide) rfl (fun ls hl => ?_)
          have hl : lv_has ls 8 [(6, .int x414), (5, .int (nI 1)), (0, .ref b), (1, .ref (aw_r ad 0)), (2, .ref (aw_m ad 0)), (3, .ref (aw_o ad)), (4, .int (nI (6 * t)))] := hl
          refine lv_goto (tgt := 837) hx hb d_La_law_806 (by decide) ?_
          refine lv_iinc (k := 6) (v := nI (6 * t + 6)) hx hb d_La_law_837 hl rfl (aw_inc (6 * t) 6 6 (by decide +kernel)) (by decide) rfl (fun ls hl => ?_)
          have hl : lv_has ls 8 [(4, .int (nI (6 * t + 6))), (6, .int x414), (5, .int (nI 1)), (0, .ref b), (1, .ref (aw_r ad 0)), (2, .ref (aw_m ad 0)), (3, .ref (aw_o ad))] := hl
          refine lv_goto (tgt := 23) hx hb d_La_law_840 (by decide) ?_
          have hl := lv_sub hl (l' := [(0, .ref b), (1, .ref (aw_r ad 0)), (2, .ref (aw_m ad 0)), (3, .ref (aw_o ad)), (4, .int (nI (6 * t + 6)))]) [3, 4, 5, 6, 0] rfl
          refine W.widen (k := 85 + (t + 1)) (n := 1246 + 6 * (t + 1)) (by omega) (by omega) ?_
          exact ih (t + 1) zG zO zX zY zA zB zM zI zL zK zN (nI 1) zQ _ _ L ls (by omega) hP hD hSh hR hS (by first | exact hl | simpa [Nat.mul_add] using hl)
        · rcases aw_p0f fr with hi | ⟨k, rfl, hk⟩
          · by_cases hs : (zG j).1 = 3 ∧ (zG j).2 = 5
            · refine lv_aload_n hx hb d_La_law_757 rfl (lv_at hl 1 rfl) ?_
              refine lv_aload_n hx hb d_La_law_758 rfl (lv_at hl 0 rfl) ?_
              refine lv_iload hx hb d_La_law_759 (lv_at hl 4 rfl) ?_
              refine lv_iconst (v := nI 1) hx hb d_La_law_761 (by decide +kernel) ?_
              refine lv_iadd hx hb d_La_law_762 ?_
              refine aw_ti (nI_add (6 * t) 1) ?_
              refine va_sld hx hb hX hbl hbA hS (i := (nI ((6 * t) + 1))) (vp_in_nI (by omega) (by omega)) d_La_law_763 ?_
              refine aw_ti (y := nI j) (by rw [nI_clamp (by omega)]; exact hc0.symm) ?_
              refine lv_aload_n hx hb d_La_law_764 rfl (lv_at hl 0 rfl) ?_
              refine lv_iload hx hb d_La_law_765 (lv_at hl 4 rfl) ?_
              refine lv_iconst (v := nI 2) hx hb d_La_law_767 (by decide +kernel) ?_
              refine lv_iadd hx hb d_La_law_768 ?_
              refine aw_ti (nI_add (6 * t) 2) ?_
              refine va_sld hx hb hX hbl hbA hS (i := (nI ((6 * t) + 2))) (vp_in_nI (by omega) (by omega)) d_La_law_769 ?_
              refine aw_ti (y := fr) (by rw [nI_clamp (by omega)]; exact hfr.symm) ?_
              refine lv_aload_n hx hb d_La_law_770 rfl (lv_at hl 0 rfl) ?_
              refine lv_iload hx hb d_La_law_771 (lv_at hl 4 rfl) ?_
              refine lv_iconst (v := nI 3) hx hb d_La_law_773 (by decide +kernel) ?_
              refine lv_iadd hx hb d_La_law_774 ?_
              refine aw_ti (nI_add (6 * t) 3) ?_
              refine va_sld hx hb hX hbl hbA hS (i := (nI ((6 * t) + 3))) (vp_in_nI (by omega) (by omega)) d_La_law_775 ?_
              refine aw_ti (y := nI 0) (by rw [nI_clamp (by omega)]; exact hm0.symm) ?_
              refine lv_aload_n hx hb d_La_law_776 rfl (lv_at hl 3 rfl) ?_
              refine va_calli (vx_runSW (As := [.ref (aw_r ad 0), .int (nI j), .int fr, .int (nI 0), .ref (aw_o ad)]) (rest := []) ⟨hx, hb, hml, hown, hG⟩ (k_La_take10V l hst D g ad N0 zG zO zX zY zA zB zM zI zL zK zN zF zQ j fr hj (by omega)) (aw_wW 5 hG gw_8_40 gw_8_38 gw_0_0 gw_8_39 rfl rfl hd_La_take ⟨Nat.le_of_ble_eq_true rfl, Nat.le_of_ble_eq_true rfl⟩) (ag_qS hP hD hSh hU hS) rfl rfl hl.1 rfl (lv_room (Nat.le_of_ble_eq_true rfl)) d_La_law_777 ⟨by omega, by omega⟩) hS (fun _ _ h => h) (fun _ h => h) ?_
              clear hP hD hSh hS
              intro x415 u8 t8 H locs ht _ ex415 hB _ _ hS
              obtain ⟨L, hP, hD, hSh⟩ := hB
              rw [ht] at hP
              clear ht
              subst ex415
              obtain ⟨zY416, ezY416⟩ : ∃ z : Nat → Nat → Int32, v_La_take10V_zY zY j = z := ⟨_, rfl⟩
              rw [ezY416] at hSh
              obtain ⟨zQ417, ezQ417⟩ : ∃ z : Int64, v_La_take10V_zQ zY j = z := ⟨_, rfl⟩
              rw [ezQ417] at hSh
              refine lv_istore hx hb d_La_law_780 hl (by decide) rfl (fun ls hl => ?_)
              have hl : lv_has ls 8 [(5, .int (nI 0)), (0, .ref b), (1, .ref (aw_r ad 0)), (2, .ref (aw_m ad 0)), (3, .ref (aw_o ad)), (4, .int (nI (6 * t)))] := hl
              refine lv_aload_n hx hb d_La_law_782 rfl (lv_at hl 3 rfl) ?_
              refine lv_aload_n hx hb d_La_law_783 rfl (lv_at hl 1 rfl) ?_
              refine lv_iload hx hb d_La_law_784 (lv_at hl 5 rfl) ?_
              refine lv_iconst (v := nI 1) hx hb d_La_law_786 (by decide +kernel) ?_
              refine lv_iadd hx hb d_La_law_787 ?_
              refine aw_ti (nI_add (6 * t) 1) ?_
              refine va_sld hx hb hX hbl hbA hS (i := (nI ((6 * t) + 1))) (vp_in_nI (by omega) (by omega)) d_La_law_788 ?_
              refine aw_ti (y := nI j) (by rw [nI_clamp (by omega)]; exact hc0.symm) ?_
              refine lv_aload_n hx hb d_La_law_789 rfl (lv_at hl 1 rfl) ?_
              refine lv_iload hx hb d_La_law_790 (lv_at hl 5 rfl) ?_
              refine lv_iconst (v := nI 2) hx hb d_La_law_792 (by decide +kernel) ?_
              refine lv_iadd hx hb d_La_law_793 ?_
              refine aw_ti (nI_add (6 * t) 2) ?_
              refine va_sld hx hb hX hbl hbA hS (i := (nI ((6 * t) + 2))) (vp_in_nI (by omega) (by omega)) d_La_law_794 ?_
              refine aw_ti (y := fr) (by rw [nI_clamp (by omega)]; exact hfr.symm) ?_
              refine lv_aload_n hx hb d_La_law_795 rfl (lv_at hl 1 rfl) ?_
              refine lv_iload hx hb d_La_law_796 (lv_at hl 5 rfl) ?_
              refine lv_iconst (v := nI 3) hx hb d_La_law_798 (by decide +kernel) ?_
              refine lv_iadd hx hb d_La_law_799 ?_
              refine aw_ti (nI_add (6 * t) 3) ?_
              refine va_sld hx hb hX hbl hbA hS (i := (nI ((6 * t) + 3))) (vp_in_nI (by omega) (by omega)) d_La_law_800 ?_
              refine aw_ti (y := nI 0) (by rw [nI_clamp (by omega)]; exact hm0.symm) ?_
              obtain ⟨_, he418⟩ := zr_M0 hSh
              refine va_calli (va_runV (As := [.int (nI j), .int fr, .int (nI 0)]) (rest := []) ⟨hx, hb, hml, hown, hG⟩ (k_Mo_takeXbV l D g ad N0 zG zO zX zY416 zA zB zM zI zL zK zN zF zQ417 j fr (nI 0) hj hi) (aw_wV 3 hG gw_12_49 gw_12_46 gw_0_10 gw_12_47 gw_12_48 rfl rfl hd_Mo_take ⟨Nat.le_of_ble_eq_true rfl, Nat.le_of_ble_eq_true rfl⟩) (ag_qV (va_recv hK hP rfl he418) hP hD hSh hU hS) rfl rfl hl.1 rfl (lv_room (Nat.le_of_ble_eq_true rfl)) d_La_law_801 ⟨by omega, by omega⟩) hS (fun _ _ h => h) (fun _ h => h) ?_
              clear hP hD hSh hS he418
              intro x419 u8 t8 H locs ht _ ex419 hB _ _ hS
              obtain ⟨L, hP, hD, hSh⟩ := hB
              rw [ht] at hP
              clear ht
              have ex419 := ex419.symm
              refine lv_istore hx hb d_La_law_804 hl (by decide) rfl (fun ls hl => ?_)
              have hl : lv_has ls 8 [(6, .int x419), (5, .int (nI 0)), (0, .ref b), (1, .ref (aw_r ad 0)), (2, .ref (aw_m ad 0)), (3, .ref (aw_o ad)), (4, .int (nI (6 * t)))] := hl
              refine lv_goto (tgt := 837) hx hb d_La_law_806 (by decide) ?_
              refine lv_iinc (k := 6) (v := nI (6 * t + 6)) hx hb d_La_law_837 hl rfl (aw_inc (6 * t) 6 6 (by decide +kernel)) (by decide) rfl (fun ls hl => ?_)
              have hl : lv_has ls 8 [(4, .int (nI (6 * t + 6))), (6, .int x419), (5, .int (nI 0)), (0, .ref b), (1, .ref (aw_r ad 0)), (2, .ref (aw_m ad 0)), (3, .ref (aw_o ad))] := hl
              refine lv_goto (tgt := 23) hx hb d_La_law_840 (by decide) ?_
              have hl := lv_sub hl (l' := [(0, .ref b), (1, .ref (aw_r ad 0)), (2, .ref (aw_m ad 0)), (3, .ref (aw_o ad)), (4, .int (nI (6 * t + 6)))]) [3, 4, 5, 6, 0] rfl
              refine W.widen (k := 85 + (t + 1)) (n := 1246 + 6 * (t + 1)) (by omega) (by omega) ?_
              have hR : az_R zG zO zX zY416 zA zB zM zI zL := by
                subst ex419 ezQ417 ezY416
                exact r_take10_Xb hR hj hs
              exact ih (t + 1) zG zO zX zY416 zA zB zM zI zL zK zN (nI 1) zQ417 _ _ L ls (by omega) hP hD hSh hR hS (by first | exact hl | simpa [Nat.mul_add] using hl)
            · refine lv_aload_n hx hb d_La_law_757 rfl (lv_at hl 1 rfl) ?_
              refine lv_aload_n hx hb d_La_law_758 rfl (lv_at hl 0 rfl) ?_
              refine lv_iload hx hb d_La_law_759 (lv_at hl 4 rfl) ?_
              refine lv_iconst (v := nI 1) hx hb d_La_law_761 (by decide +kernel) ?_
              refine lv_iadd hx hb d_La_law_762 ?_
              refine aw_ti (nI_add (6 * t) 1) ?_
              refine va_sld hx hb hX hbl hbA hS (i := (nI ((6 * t) + 1))) (vp_in_nI (by omega) (by omega)) d_La_law_763 ?_
              refine aw_ti (y := nI j) (by rw [nI_clamp (by omega)]; exact hc0.symm) ?_
              refine lv_aload_n hx hb d_La_law_764 rfl (lv_at hl 0 rfl) ?_
              refine lv_iload hx hb d_La_law_765 (lv_at hl 4 rfl) ?_
              refine lv_iconst (v := nI 2) hx hb d_La_law_767 (by decide +kernel) ?_
              refine lv_iadd hx hb d_La_law_768 ?_
              refine aw_ti (nI_add (6 * t) 2) ?_
              refine va_sld hx hb hX hbl hbA hS (i := (nI ((6 * t) + 2))) (vp_in_nI (by omega) (by omega)) d_La_law_769 ?_
              refine aw_ti (y := fr) (by rw [nI_clamp (by omega)]; exact hfr.symm) ?_
              refine lv_aload_n hx hb d_La_law_770 rfl (lv_at hl 0 rfl) ?_
              refine lv_iload hx hb d_La_law_771 (lv_at hl 4 rfl) ?_
              refine lv_iconst (v := nI 3) hx hb d_La_law_773 (by decide +kernel) ?_
              refine lv_iadd hx hb d_La_law_774 ?_
              refine aw_ti (nI_add (6 * t) 3) ?_
              refine va_sld hx hb hX hbl hbA hS (i := (nI ((6 * t) + 3))) (vp_in_nI (by omega) (by omega)) d_La_law_775 ?_
              refine aw_ti (y := nI 0) (by rw [nI_clamp (by omega)]; exact hm0.symm) ?_
              refine lv_aload_n hx hb d_La_law_776 rfl (lv_at hl 3 rfl) ?_
              refine va_calli (vx_runSW (As := [.ref (aw_r ad 0), .int (nI j), .int fr, .int (nI 0), .ref (aw_o ad)]) (rest := []) ⟨hx, hb, hml, hown, hG⟩ (k_La_takeXs0V l hst D g ad N0 zG zO zX zY zA zB zM zI zL zK zN zF zQ j fr hj (by omega)) (aw_wW 5 hG gw_8_40 gw_8_38 gw_0_0 gw_8_39 rfl rfl hd_La_take ⟨Nat.le_of_ble_eq_true rfl, Nat.le_of_ble_eq_true rfl⟩) (ag_qS hP hD hSh hU hS) rfl rfl hl.1 rfl (lv_room (Nat.le_of_ble_eq_true rfl)) d_La_law_777 ⟨by omega, by omega⟩) hS (fun _ _ h => h) (fun _ h => h) ?_
              clear hP hD hSh hS
              intro x420 u8 t8 H locs ht _ ex420 hB _ _ hS
              obtain ⟨L, hP, hD, hSh⟩ := hB
              rw [ht] at hP
              clear ht
              subst ex420
              refine lv_istore hx hb d_La_law_780 hl (by decide) rfl (fun ls hl => ?_)
              have hl : lv_has ls 8 [(5, .int (nI 2)), (0, .ref b), (1, .ref (aw_r ad 0)), (2, .ref (aw_m ad 0)), (3, .ref (aw_o ad)), (4, .int (nI (6 * t)))] := hl
              refine lv_aload_n hx hb d_La_law_782 rfl (lv_at hl 3 rfl) ?_
              refine lv_aload_n hx hb d_La_law_783 rfl (lv_at hl 1 rfl) ?_
              refine lv_iload hx hb d_La_law_784 (lv_at hl 5 rfl) ?_
              refine lv_iconst (v := nI 1) hx hb d_La_law_786 (by decide +kernel) ?_
              refine lv_iadd hx hb d_La_law_787 ?_
              refine aw_ti (nI_add (6 * t) 1) ?_
              refine va_sld hx hb hX hbl hbA hS (i := (nI ((6 * t) + 1))) (vp_in_nI (by omega) (by omega)) d_La_law_788 ?_
              refine aw_ti (y := nI j) (by rw [nI_clamp (by omega)]; exact hc0.symm) ?_
              refine lv_aload_n hx hb d_La_law_789 rfl (lv_at hl 1 rfl) ?_
              refine lv_iload hx hb d_La_law_790 (lv_at hl 5 rfl) ?_
              refine lv_iconst (v := nI 2) hx hb d_La_law_792 (by decide +kernel) ?_
              refine lv_iadd hx hb d_La_law_793 ?_
              refine aw_ti (nI_add (6 * t) 2) ?_
              refine va_sld hx hb hX hbl hbA hS (i := (nI ((6 * t) + 2))) (vp_in_nI (by omega) (by omega)) d_La_law_794 ?_
              refine aw_ti (y := fr) (by rw [nI_clamp (by omega)]; exact hfr.symm) ?_
              refine lv_aload_n hx hb d_La_law_795 rfl (lv_at hl 1 rfl) ?_
              refine lv_iload hx hb d_La_law_796 (lv_at hl 5 rfl) ?_
              refine lv_iconst (v := nI 3) hx hb d_La_law_798 (by decide +kernel) ?_
              refine lv_iadd hx hb d_La_law_799 ?_
              refine aw_ti (nI_add (6 * t) 3) ?_
              refine va_sld hx hb hX hbl hbA hS (i := (nI ((6 * t) + 3))) (vp_in_nI (by omega) (by omega)) d_La_law_800 ?_
              refine aw_ti (y := nI 0) (by rw [nI_clamp (by omega)]; exact hm0.symm) ?_
              obtain ⟨_, he421⟩ := zr_M0 hSh
              refine va_calli (va_runV (As := [.int (nI j), .int fr, .int (nI 0)]) (rest := []) ⟨hx, hb, hml, hown, hG⟩ (k_Mo_takeXbV l D g ad N0 zG zO zX zY zA zB zM zI zL zK zN zF zQ j fr (nI 0) hj hi) (aw_wV 3 hG gw_12_49 gw_12_46 gw_0_10 gw_12_47 gw_12_48 rfl rfl hd_Mo_take ⟨Nat.le_of_ble_eq_true rfl, Nat.le_of_ble_eq_true rfl⟩) (ag_qV (va_recv hK hP rfl he421) hP hD hSh hU hS) rfl rfl hl.1 rfl (lv_room (Nat.le_of_ble_eq_true rfl)) d_La_law_801 ⟨by omega, by omega⟩) hS (fun _ _ h => h) (fun _ h => h) ?_
              clear hP hD hSh hS he421
              intro x422 u8 t8 H locs ht _ ex422 hB _ _ hS
              obtain ⟨L, hP, hD, hSh⟩ := hB
              rw [ht] at hP
              clear ht
              have ex422 := ex422.symm
              refine lv_istore hx hb d_La_law_804 hl (by decide) rfl (fun ls hl => ?_)
              have hl : lv_has ls 8 [(6, .int x422), (5, .int (nI 2)), (0, .ref b), (1, .ref (aw_r ad 0)), (2, .ref (aw_m ad 0)), (3, .ref (aw_o ad)), (4, .int (nI (6 * t)))] := hl
              refine lv_goto (tgt := 837) hx hb d_La_law_806 (by decide) ?_
              refine lv_iinc (k := 6) (v := nI (6 * t + 6)) hx hb d_La_law_837 hl rfl (aw_inc (6 * t) 6 6 (by decide +kernel)) (by decide) rfl (fun ls hl => ?_)
              have hl : lv_has ls 8 [(4, .int (nI (6 * t + 6))), (6, .int x422), (5, .int (nI 2)), (0, .ref b), (1, .ref (aw_r ad 0)), (2, .ref (aw_m ad 0)), (3, .ref (aw_o ad))] := hl
              refine lv_goto (tgt := 23) hx hb d_La_law_840 (by decide) ?_
              have hl := lv_sub hl (l' := [(0, .ref b), (1, .ref (aw_r ad 0)), (2, .ref (aw_m ad 0)), (3, .ref (aw_o ad)), (4, .int (nI (6 * t + 6)))]) [3, 4, 5, 6, 0] rfl
              refine W.widen (k := 85 + (t + 1)) (n := 1246 + 6 * (t + 1)) (by omega) (by omega) ?_
              exact ih (t + 1) zG zO zX zY zA zB zM zI zL zK zN (nI 1) zQ _ _ L ls (by omega) hP hD hSh hR hS (by first | exact hl | simpa [Nat.mul_add] using hl)
          · by_cases hs : (zG j).1 = 3 ∧ (zG j).2 = 5
            · obtain ⟨kc, hkc, hci, hco⟩ := hR.2.1 j hj (by omega)
              refine lv_aload_n hx hb d_La_law_757 rfl (lv_at hl 1 rfl) ?_
              refine lv_aload_n hx hb d_La_law_758 rfl (lv_at hl 0 rfl) ?_
              refine lv_iload hx hb d_La_law_759 (lv_at hl 4 rfl) ?_
              refine lv_iconst (v := nI 1) hx hb d_La_law_761 (by decide +kernel) ?_
              refine lv_iadd hx hb d_La_law_762 ?_
              refine aw_ti (nI_add (6 * t) 1) ?_
              refine va_sld hx hb hX hbl hbA hS (i := (nI ((6 * t) + 1))) (vp_in_nI (by omega) (by omega)) d_La_law_763 ?_
              refine aw_ti (y := nI j) (by rw [nI_clamp (by omega)]; exact hc0.symm) ?_
              refine lv_aload_n hx hb d_La_law_764 rfl (lv_at hl 0 rfl) ?_
              refine lv_iload hx hb d_La_law_765 (lv_at hl 4 rfl) ?_
              refine lv_iconst (v := nI 2) hx hb d_La_law_767 (by decide +kernel) ?_
              refine lv_iadd hx hb d_La_law_768 ?_
              refine aw_ti (nI_add (6 * t) 2) ?_
              refine va_sld hx hb hX hbl hbA hS (i := (nI ((6 * t) + 2))) (vp_in_nI (by omega) (by omega)) d_La_law_769 ?_
              refine aw_ti (y := nI k) (by rw [nI_clamp (by omega)]; exact hfr.symm) ?_
              refine lv_aload_n hx hb d_La_law_770 rfl (lv_at hl 0 rfl) ?_
              refine lv_iload hx hb d_La_law_771 (lv_at hl 4 rfl) ?_
              refine lv_iconst (v := nI 3) hx hb d_La_law_773 (by decide +kernel) ?_
              refine lv_iadd hx hb d_La_law_774 ?_
              refine aw_ti (nI_add (6 * t) 3) ?_
              refine va_sld hx hb hX hbl hbA hS (i := (nI ((6 * t) + 3))) (vp_in_nI (by omega) (by omega)) d_La_law_775 ?_
              refine aw_ti (y := nI 0) (by rw [nI_clamp (by omega)]; exact hm0.symm) ?_
              refine lv_aload_n hx hb d_La_law_776 rfl (lv_at hl 3 rfl) ?_
              refine va_calli (vx_runSW (As := [.ref (aw_r ad 0), .int (nI j), .int (nI k), .int (nI 0), .ref (aw_o ad)]) (rest := []) ⟨hx, hb, hml, hown, hG⟩ (k_La_take10V l hst D g ad N0 zG zO zX zY zA zB zM zI zL zK zN zF zQ j (nI k) hj (by omega)) (aw_wW 5 hG gw_8_40 gw_8_38 gw_0_0 gw_8_39 rfl rfl hd_La_take ⟨Nat.le_of_ble_eq_true rfl, Nat.le_of_ble_eq_true rfl⟩) (ag_qS hP hD hSh hU hS) rfl rfl hl.1 rfl (lv_room (Nat.le_of_ble_eq_true rfl)) d_La_law_777 ⟨by omega, by omega⟩) hS (fun _ _ h => h) (fun _ h => h) ?_
              clear hP hD hSh hS
              intro x423 u8 t8 H locs ht _ ex423 hB _ _ hS
              obtain ⟨L, hP, hD, hSh⟩ := hB
              rw [ht] at hP
              clear ht
              subst ex423
              obtain ⟨zY424, ezY424⟩ : ∃ z : Nat → Nat → Int32, v_La_take10V_zY zY j = z := ⟨_, rfl⟩
              rw [ezY424] at hSh
              obtain ⟨zQ425, ezQ425⟩ : ∃ z : Int64, v_La_take10V_zQ zY j = z := ⟨_, rfl⟩
              rw [ezQ425] at hSh
              refine lv_istore hx hb d_La_law_780 hl (by decide) rfl (fun ls hl => ?_)
              have hl : lv_has ls 8 [(5, .int (nI 0)), (0, .ref b), (1, .ref (aw_r ad 0)), (2, .ref (aw_m ad 0)), (3, .ref (aw_o ad)), (4, .int (nI (6 * t)))] := hl
              refine lv_aload_n hx hb d_La_law_782 rfl (lv_at hl 3 rfl) ?_
              refine lv_aload_n hx hb d_La_law_783 rfl (lv_at hl 1 rfl) ?_
              refine lv_iload hx hb d_La_law_784 (lv_at hl 5 rfl) ?_
              refine lv_iconst (v := nI 1) hx hb d_La_law_786 (by decide +kernel) ?_
              refine lv_iadd hx hb d_La_law_787 ?_
              refine aw_ti (nI_add (6 * t) 1) ?_
              refine va_sld hx hb hX hbl hbA hS (i := (nI ((6 * t) + 1))) (vp_in_nI (by omega) (by omega)) d_La_law_788 ?_
              refine aw_ti (y := nI j) (by rw [nI_clamp (by omega)]; exact hc0.symm) ?_
              refine lv_aload_n hx hb d_La_law_789 rfl (lv_at hl 1 rfl) ?_
              refine lv_iload hx hb d_La_law_790 (lv_at hl 5 rfl) ?_
              refine lv_iconst (v := nI 2) hx hb d_La_law_792 (by decide +kernel) ?_
              refine lv_iadd hx hb d_La_law_793 ?_
              refine aw_ti (nI_add (6 * t) 2) ?_
              refine va_sld hx hb hX hbl hbA hS (i := (nI ((6 * t) + 2))) (vp_in_nI (by omega) (by omega)) d_La_law_794 ?_
              refine aw_ti (y := nI k) (by rw [nI_clamp (by omega)]; exact hfr.symm) ?_
              refine lv_aload_n hx hb d_La_law_795 rfl (lv_at hl 1 rfl) ?_
              refine lv_iload hx hb d_La_law_796 (lv_at hl 5 rfl) ?_
              refine lv_iconst (v := nI 3) hx hb d_La_law_798 (by decide +kernel) ?_
              refine lv_iadd hx hb d_La_law_799 ?_
              refine aw_ti (nI_add (6 * t) 3) ?_
              refine va_sld hx hb hX hbl hbA hS (i := (nI ((6 * t) + 3))) (vp_in_nI (by omega) (by omega)) d_La_law_800 ?_
              refine aw_ti (y := nI 0) (by rw [nI_clamp (by omega)]; exact hm0.symm) ?_
              obtain ⟨_, he426⟩ := zr_M0 hSh
              refine va_calli (va_runV (As := [.int (nI j), .int (nI k), .int (nI 0)]) (rest := []) ⟨hx, hb, hml, hown, hG⟩ (k_Mo_take1V l D g ad N0 zG zO zX zY424 zA zB zM zI zL zK zN zF zQ425 j kc k 0 hj (by omega) (by omega) hkc hci) (aw_wV 3 hG gw_12_49 gw_12_46 gw_0_10 gw_12_47 gw_12_48 rfl rfl hd_Mo_take ⟨Nat.le_of_ble_eq_true rfl, Nat.le_of_ble_eq_true rfl⟩) (ag_qV (va_recv hK hP rfl he426) hP hD hSh hU hS) rfl rfl hl.1 rfl (lv_room (Nat.le_of_ble_eq_true rfl)) d_La_law_801 ⟨by omega, by omega⟩) hS (fun _ _ h => h) (fun _ h => h) ?_
              clear hP hD hSh hS he426
              intro x427 u8 t8 H locs ht _ ex427 hB _ _ hS
              obtain ⟨L, hP, hD, hSh⟩ := hB
              rw [ht] at hP
              clear ht
              obtain ⟨zI428, ezI428⟩ : ∃ z : Nat → Nat → Int32, v_Mo_take1V_zI zI zL j kc k 0 = z := ⟨_, rfl⟩
              rw [ezI428] at hSh
              obtain ⟨zL429, ezL429⟩ : ∃ z : Nat → Nat → Int64, v_Mo_take1V_zL zI zL j kc k 0 = z := ⟨_, rfl⟩
              rw [ezL429] at hSh
              have ex427 := ex427.symm
              refine lv_istore hx hb d_La_law_804 hl (by decide) rfl (fun ls hl => ?_)
              have hl : lv_has ls 8 [(6, .int x427), (5, .int (nI 0)), (0, .ref b), (1, .ref (aw_r ad 0)), (2, .ref (aw_m ad 0)), (3, .ref (aw_o ad)), (4, .int (nI (6 * t)))] := hl
              refine lv_goto (tgt := 837) hx hb d_La_law_806 (by decide) ?_
              refine lv_iinc (k := 6) (v := nI (6 * t + 6)) hx hb d_La_law_837 hl rfl (aw_inc (6 * t) 6 6 (by decide +kernel)) (by decide) rfl (fun ls hl => ?_)
              have hl : lv_has ls 8 [(4, .int (nI (6 * t + 6))), (6, .int x427), (5, .int (nI 0)), (0, .ref b), (1, .ref (aw_r ad 0)), (2, .ref (aw_m ad 0)), (3, .ref (aw_o ad))] := hl
              refine lv_goto (tgt := 23) hx hb d_La_law_840 (by decide) ?_
              have hl := lv_sub hl (l' := [(0, .ref b), (1, .ref (aw_r ad 0)), (2, .ref (aw_m ad 0)), (3, .ref (aw_o ad)), (4, .int (nI (6 * t + 6)))]) [3, 4, 5, 6, 0] rfl
              refine W.widen (k := 85 + (t + 1)) (n := 1246 + 6 * (t + 1)) (by omega) (by omega) ?_
              have hR : az_R zG zO zX zY424 zA zB zM zI428 zL429 := by
                subst ex427 ezL429 ezI428 ezQ425 ezY424
                exact r_take10_1 hR hj hs hk hkc hci hco
              exact ih (t + 1) zG zO zX zY424 zA zB zM zI428 zL429 (nI kc) (az_wn kc) (nI 0) zQ425 _ _ L ls (by omega) hP hD hSh hR hS (by first | exact hl | simpa [Nat.mul_add] using hl)
            · refine lv_aload_n hx hb d_La_law_757 rfl (lv_at hl 1 rfl) ?_
              refine lv_aload_n hx hb d_La_law_758 rfl (lv_at hl 0 rfl) ?_
              refine lv_iload hx hb d_La_law_759 (lv_at hl 4 rfl) ?_
              refine lv_iconst (v := nI 1) hx hb d_La_law_761 (by decide +kernel) ?_
              refine lv_iadd hx hb d_La_law_762 ?_
              refine aw_ti (nI_add (6 * t) 1) ?_
              refine va_sld hx hb hX hbl hbA hS (i := (nI ((6 * t) + 1))) (vp_in_nI (by omega) (by omega)) d_La_law_763 ?_
              refine aw_ti (y := nI j) (by rw [nI_clamp (by omega)]; exact hc0.symm) ?_
              refine lv_aload_n hx hb d_La_law_764 rfl (lv_at hl 0 rfl) ?_
              refine lv_iload hx hb d_La_law_765 (lv_at hl 4 rfl) ?_
              refine lv_iconst (v := nI 2) hx hb d_La_law_767 (by decide +kernel) ?_
              refine lv_iadd hx hb d_La_law_768 ?_
              refine aw_ti (nI_add (6 * t) 2) ?_
              refine va_sld hx hb hX hbl hbA hS (i := (nI ((6 * t) + 2))) (vp_in_nI (by omega) (by omega)) d_La_law_769 ?_
              refine aw_ti (y := nI k) (by rw [nI_clamp (by omega)]; exact hfr.symm) ?_
              refine lv_aload_n hx hb d_La_law_770 rfl (lv_at hl 0 rfl) ?_
              refine lv_iload hx hb d_La_law_771 (lv_at hl 4 rfl) ?_
              refine lv_iconst (v := nI 3) hx hb d_La_law_773 (by decide +kernel) ?_
              refine lv_iadd hx hb d_La_law_774 ?_
              refine aw_ti (nI_add (6 * t) 3) ?_
              refine va_sld hx hb hX hbl hbA hS (i := (nI ((6 * t) + 3))) (vp_in_nI (by omega) (by omega)) d_La_law_775 ?_
              refine aw_ti (y := nI 0) (by rw [nI_clamp (by omega)]; exact hm0.symm) ?_
              refine lv_aload_n hx hb d_La_law_776 rfl (lv_at hl 3 rfl) ?_
              refine va_calli (vx_runSW (As := [.ref (aw_r ad 0), .int (nI j), .int (nI k), .int (nI 0), .ref (aw_o ad)]) (rest := []) ⟨hx, hb, hml, hown, hG⟩ (k_La_takeXs0V l hst D g ad N0 zG zO zX zY zA zB zM zI zL zK zN zF zQ j (nI k) hj (by omega)) (aw_wW 5 hG gw_8_40 gw_8_38 gw_0_0 gw_8_39 rfl rfl hd_La_take ⟨Nat.le_of_ble_eq_true rfl, Nat.le_of_ble_eq_true rfl⟩) (ag_qS hP hD hSh hU hS) rfl rfl hl.1 rfl (lv_room (Nat.le_of_ble_eq_true rfl)) d_La_law_777 ⟨by omega, by omega⟩) hS (fun _ _ h => h) (fun _ h => h) ?_
              clear hP hD hSh hS
              intro x430 u8 t8 H locs ht _ ex430 hB _ _ hS
              obtain ⟨L, hP, hD, hSh⟩ := hB
              rw [ht] at hP
              clear ht
              subst ex430
              refine lv_istore hx hb d_La_law_780 hl (by decide) rfl (fun ls hl => ?_)
              have hl : lv_has ls 8 [(5, .int (nI 2)), (0, .ref b), (1, .ref (aw_r ad 0)), (2, .ref (aw_m ad 0)), (3, .ref (aw_o ad)), (4, .int (nI (6 * t)))] := hl
              refine lv_aload_n hx hb d_La_law_782 rfl (lv_at hl 3 rfl) ?_
              refine lv_aload_n hx hb d_La_law_783 rfl (lv_at hl 1 rfl) ?_
              refine lv_iload hx hb d_La_law_784 (lv_at hl 5 rfl) ?_
              refine lv_iconst (v := nI 1) hx hb d_La_law_786 (by decide +kernel) ?_
              refine lv_iadd hx hb d_La_law_787 ?_
              refine aw_ti (nI_add (6 * t) 1) ?_
              refine va_sld hx hb hX hbl hbA hS (i := (nI ((6 * t) + 1))) (vp_in_nI (by omega) (by omega)) d_La_law_788 ?_
              refine aw_ti (y := nI j) (by rw [nI_clamp (by omega)]; exact hc0.symm) ?_
              refine lv_aload_n hx hb d_La_law_789 rfl (lv_at hl 1 rfl) ?_
              refine lv_iload hx hb d_La_law_790 (lv_at hl 5 rfl) ?_
              refine lv_iconst (v := nI 2) hx hb d_La_law_792 (by decide +kernel) ?_
              refine lv_iadd hx hb d_La_law_793 ?_
              refine aw_ti (nI_add (6 * t) 2) ?_
              refine va_sld hx hb hX hbl hbA hS (i := (nI ((6 * t) + 2))) (vp_in_nI (by omega) (by omega)) d_La_law_794 ?_
              refine aw_ti (y := nI k) (by rw [nI_clamp (by omega)]; exact hfr.symm) ?_
              refine lv_aload_n hx hb d_La_law_795 rfl (lv_at hl 1 rfl) ?_
              refine lv_iload hx hb d_La_law_796 (lv_at hl 5 rfl) ?_
              refine lv_iconst (v := nI 3) hx hb d_La_law_798 (by decide +kernel) ?_
              refine lv_iadd hx hb d_La_law_799 ?_
              refine aw_ti (nI_add (6 * t) 3) ?_
              refine va_sld hx hb hX hbl hbA hS (i := (nI ((6 * t) + 3))) (vp_in_nI (by omega) (by omega)) d_La_law_800 ?_
              refine aw_ti (y := nI 0) (by rw [nI_clamp (by omega)]; exact hm0.symm) ?_
              obtain ⟨_, he431⟩ := zr_M0 hSh
              refine va_calli (va_runV (As := [.int (nI j), .int (nI k), .int (nI 0)]) (rest := []) ⟨hx, hb, hml, hown, hG⟩ (k_Mo_takeXsV l D g ad N0 zG zO zX zY zA zB zM zI zL zK zN zF zQ j k 0 hj (by omega) (by omega)) (aw_wV 3 hG gw_12_49 gw_12_46 gw_0_10 gw_12_47 gw_12_48 rfl rfl hd_Mo_take ⟨Nat.le_of_ble_eq_true rfl, Nat.le_of_ble_eq_true rfl⟩) (ag_qV (va_recv hK hP rfl he431) hP hD hSh hU hS) rfl rfl hl.1 rfl (lv_room (Nat.le_of_ble_eq_true rfl)) d_La_law_801 ⟨by omega, by omega⟩) hS (fun _ _ h => h) (fun _ h => h) ?_
              clear hP hD hSh hS he431
              intro x432 u8 t8 H locs ht _ ex432 hB _ _ hS
              obtain ⟨L, hP, hD, hSh⟩ := hB
              rw [ht] at hP
              clear ht
              have ex432 := ex432.symm
              refine lv_istore hx hb d_La_law_804 hl (by decide) rfl (fun ls hl => ?_)
              have hl : lv_has ls 8 [(6, .int x432), (5, .int (nI 2)), (0, .ref b), (1, .ref (aw_r ad 0)), (2, .ref (aw_m ad 0)), (3, .ref (aw_o ad)), (4, .int (nI (6 * t)))] := hl
              refine lv_goto (tgt := 837) hx hb d_La_law_806 (by decide) ?_
              refine lv_iinc (k := 6) (v := nI (6 * t + 6)) hx hb d_La_law_837 hl rfl (aw_inc (6 * t) 6 6 (by decide +kernel)) (by decide) rfl (fun ls hl => ?_)
              have hl : lv_has ls 8 [(4, .int (nI (6 * t + 6))), (6, .int x432), (5, .int (nI 2)), (0, .ref b), (1, .ref (aw_r ad 0)), (2, .ref (aw_m ad 0)), (3, .ref (aw_o ad))] := hl
              refine lv_goto (tgt := 23) hx hb d_La_law_840 (by decide) ?_
              have hl := lv_sub hl (l' := [(0, .ref b), (1, .ref (aw_r ad 0)), (2, .ref (aw_m ad 0)), (3, .ref (aw_o ad)), (4, .int (nI (6 * t + 6)))]) [3, 4, 5, 6, 0] rfl
              refine W.widen (k := 85 + (t + 1)) (n := 1246 + 6 * (t + 1)) (by omega) (by omega) ?_
              exact ih (t + 1) zG zO zX zY zA zB zM zI zL zK zN (nI 2) zQ _ _ L ls (by omega) hP hD hSh hR hS (by first | exact hl | simpa [Nat.mul_add] using hl)
        · by_cases hs : (zG j).1 = 3 ∧ (zG j).2 = 5
          · obtain ⟨kc, hkc, hci, hco⟩ := hR.2.1 j hj (by omega)
            refine lv_aload_n hx hb d_La_law_757 rfl (lv_at hl 1 rfl) ?_
            refine lv_aload_n hx hb d_La_law_758 rfl (lv_at hl 0 rfl) ?_
            refine lv_iload hx hb d_La_law_759 (lv_at hl 4 rfl) ?_
            refine lv_iconst (v := nI 1) hx hb d_La_law_761 (by decide +kernel) ?_
            refine lv_iadd hx hb d_La_law_762 ?_
            refine aw_ti (nI_add (6 * t) 1) ?_
            refine va_sld hx hb hX hbl hbA hS (i := (nI ((6 * t) + 1))) (vp_in_nI (by omega) (by omega)) d_La_law_763 ?_
            refine aw_ti (y := nI j) (by rw [nI_clamp (by omega)]; exact hc0.symm) ?_
            refine lv_aload_n hx hb d_La_law_764 rfl (lv_at hl 0 rfl) ?_
            refine lv_iload hx hb d_La_law_765 (lv_at hl 4 rfl) ?_
            refine lv_iconst (v := nI 2) hx hb d_La_law_767 (by decide +kernel) ?_
            refine lv_iadd hx hb d_La_law_768 ?_
            refine aw_ti (nI_add (6 * t) 2) ?_
            refine va_sld hx hb hX hbl hbA hS (i := (nI ((6 * t) + 2))) (vp_in_nI (by omega) (by omega)) d_La_law_769 ?_
            refine aw_ti (y := nI k) (by rw [nI_clamp (by omega)]; exact hfr.symm) ?_
            refine lv_aload_n hx hb d_La_law_770 rfl (lv_at hl 0 rfl) ?_
            refine lv_iload hx hb d_La_law_771 (lv_at hl 4 rfl) ?_
            refine lv_iconst (v := nI 3) hx hb d_La_law_773 (by decide +kernel) ?_
            refine lv_iadd hx hb d_La_law_774 ?_
            refine aw_ti (nI_add (6 * t) 3) ?_
            refine va_sld hx hb hX hbl hbA hS (i := (nI ((6 * t) + 3))) (vp_in_nI (by omega) (by omega)) d_La_law_775 ?_
            refine aw_ti (y := nI mm) (by rw [nI_clamp (by omega)]; exact hm0.symm) ?_
            refine lv_aload_n hx hb d_La_law_776 rfl (lv_at hl 3 rfl) ?_
            refine va_calli (vx_runSW (As := [.ref (aw_r ad 0), .int (nI j), .int (nI k), .int (nI mm), .ref (aw_o ad)]) (rest := []) ⟨hx, hb, hml, hown, hG⟩ (k_La_take11V l hst D g ad N0 zG zO zX zY zA zB zM zI zL zK zN zF zQ j k mm hj (by omega) (by omega) (by omega)) (aw_wW 5 hG gw_8_40 gw_8_38 gw_0_0 gw_8_39 rfl rfl hd_La_take ⟨Nat.le_of_ble_eq_true rfl, Nat.le_of_ble_eq_true rfl⟩) (ag_qS hP hD hSh hU hS) rfl rfl hl.1 rfl (lv_room (Nat.le_of_ble_eq_true rfl)) d_La_law_777 ⟨by omega, by omega⟩) hS (fun _ _ h => h) (fun _ h => h) ?_
            clear hP hD hSh hS
            intro x433 u8 t8 H locs ht _ ex433 hB _ _ hS
            obtain ⟨L, hP, hD, hSh⟩ := hB
            rw [ht] at hP
            clear ht
            subst ex433
            obtain ⟨zX434, ezX434⟩ : ∃ z : Nat → Nat → Int64, v_La_take11V_zX zO zX zY zA zB j k mm = z := ⟨_, rfl⟩
            rw [ezX434] at hSh
            obtain ⟨zY435, ezY435⟩ : ∃ z : Nat → Nat → Int32, v_La_take11V_zY zO zX zY zA zB j k mm = z := ⟨_, rfl⟩
            rw [ezY435] at hSh
            obtain ⟨zQ436, ezQ436⟩ : ∃ z : Int64, v_La_take11V_zQ zO zX zY zA zB j k mm = z := ⟨_, rfl⟩
            rw [ezQ436] at hSh
            refine lv_istore hx hb d_La_law_780 hl (by decide) rfl (fun ls hl => ?_)
            have hl : lv_has ls 8 [(5, .int (nI 0)), (0, .ref b), (1, .ref (aw_r ad 0)), (2, .ref (aw_m ad 0)), (3, .ref (aw_o ad)), (4, .int (nI (6 * t)))] := hl
            refine lv_aload_n hx hb d_La_law_782 rfl (lv_at hl 3 rfl) ?_
            refine lv_aload_n hx hb d_La_law_783 rfl (lv_at hl 1 rfl) ?_
            refine lv_iload hx hb d_La_law_784 (lv_at hl 5 rfl) ?_
            refine lv_iconst (v := nI 1) hx hb d_La_law_786 (by decide +kernel) ?_
            refine lv_iadd hx hb d_La_law_787 ?_
            refine aw_ti (nI_add (6 * t) 1) ?_
            refine va_sld hx hb hX hbl hbA hS (i := (nI ((6 * t) + 1))) (vp_in_nI (by omega) (by omega)) d_La_law_788 ?_
            refine aw_ti (y := nI j) (by rw [nI_clamp (by omega)]; exact hc0.symm) ?_
            refine lv_aload_n hx hb d_La_law_789 rfl (lv_at hl 1 rfl) ?_
            refine lv_iload hx hb d_La_law_790 (lv_at hl 5 rfl) ?_
            refine lv_iconst (v := nI 2) hx hb d_La_law_792 (by decide +kernel) ?_
            refine lv_iadd hx hb d_La_law_793 ?_
            refine aw_ti (nI_add (6 * t) 2) ?_
            refine va_sld hx hb hX hbl hbA hS (i := (nI ((6 * t) + 2))) (vp_in_nI (by omega) (by omega)) d_La_law_794 ?_
            refine aw_ti (y := nI k) (by rw [nI_clamp (by omega)]; exact hfr.symm) ?_
            refine lv_aload_n hx hb d_La_law_795 rfl (lv_at hl 1 rfl) ?_
            refine lv_iload hx hb d_La_law_796 (lv_at hl 5 rfl) ?_
            refine lv_iconst (v := nI 3) hx hb d_La_law_798 (by decide +kernel) ?_
            refine lv_iadd hx hb d_La_law_799 ?_
            refine aw_ti (nI_add (6 * t) 3) ?_
            refine va_sld hx hb hX hbl hbA hS (i := (nI ((6 * t) + 3))) (vp_in_nI (by omega) (by omega)) d_La_law_800 ?_
            refine aw_ti (y := nI mm) (by rw [nI_clamp (by omega)]; exact hm0.symm) ?_
            obtain ⟨_, he437⟩ := zr_M0 hSh
            refine va_calli (va_runV (As := [.int (nI j), .int (nI k), .int (nI mm)]) (rest := []) ⟨hx, hb, hml, hown, hG⟩ (k_Mo_take1V l D g ad N0 zG zO zX434 zY435 zA zB zM zI zL zK zN zF zQ436 j kc k mm hj (by omega) (by omega) hkc hci) (aw_wV 3 hG gw_12_49 gw_12_46 gw_0_10 gw_12_47 gw_12_48 rfl rfl hd_Mo_take ⟨Nat.le_of_ble_eq_true rfl, Nat.le_of_ble_eq_true rfl⟩) (ag_qV (va_recv hK hP rfl he437) hP hD hSh hU hS) rfl rfl hl.1 rfl (lv_room (Nat.le_of_ble_eq_true rfl)) d_La_law_801 ⟨by omega, by omega⟩) hS (fun _ _ h => h) (fun _ h => h) ?_
            clear hP hD hSh hS he437
            intro x438 u8 t8 H locs ht _ ex438 hB _ _ hS
            obtain ⟨L, hP, hD, hSh⟩ := hB
            rw [ht] at hP
            clear ht
            obtain ⟨zI439, ezI439⟩ : ∃ z : Nat → Nat → Int32, v_Mo_take1V_zI zI zL j kc k mm = z := ⟨_, rfl⟩
            rw [ezI439] at hSh
            obtain ⟨zL440, ezL440⟩ : ∃ z : Nat → Nat → Int64, v_Mo_take1V_zL zI zL j kc k mm = z := ⟨_, rfl⟩
            rw [ezL440] at hSh
            have ex438 := ex438.symm
            refine lv_istore hx hb d_La_law_804 hl (by decide) rfl (fun ls hl => ?_)
            have hl : lv_has ls 8 [(6, .int x438), (5, .int (nI 0)), (0, .ref b), (1, .ref (aw_r ad 0)), (2, .ref (aw_m ad 0)), (3, .ref (aw_o ad)), (4, .int (nI (6 * t)))] := hl
            refine lv_goto (tgt := 837) hx hb d_La_law_806 (by decide) ?_
            refine lv_iinc (k := 6) (v := nI (6 * t + 6)) hx hb d_La_law_837 hl rfl (aw_inc (6 * t) 6 6 (by decide +kernel)) (by decide) rfl (fun ls hl => ?_)
            have hl : lv_has ls 8 [(4, .int (nI (6 * t + 6))), (6, .int x438), (5, .int (nI 0)), (0, .ref b), (1, .ref (aw_r ad 0)), (2, .ref (aw_m ad 0)), (3, .ref (aw_o ad))] := hl
            refine lv_goto (tgt := 23) hx hb d_La_law_840 (by decide) ?_
            have hl := lv_sub hl (l' := [(0, .ref b), (1, .ref (aw_r ad 0)), (2, .ref (aw_m ad 0)), (3, .ref (aw_o ad)), (4, .int (nI (6 * t + 6)))]) [3, 4, 5, 6, 0] rfl
            refine W.widen (k := 85 + (t + 1)) (n := 1246 + 6 * (t + 1)) (by omega) (by omega) ?_
            have hR : az_R zG zO zX434 zY435 zA zB zM zI439 zL440 := by
              subst ex438 ezL440 ezI439 ezQ436 ezY435 ezX434
              exact r_take11_1 hR hj hs h0 hk hkc hci hco
            exact ih (t + 1) zG zO zX434 zY435 zA zB zM zI439 zL440 (nI kc) (az_wn kc) (nI 0) zQ436 _ _ L ls (by omega) hP hD hSh hR hS (by first | exact hl | simpa [Nat.mul_add] using hl)
          · refine lv_aload_n hx hb d_La_law_757 rfl (lv_at hl 1 rfl) ?_
            refine lv_aload_n hx hb d_La_law_758 rfl (lv_at hl 0 rfl) ?_
            refine lv_iload hx hb d_La_law_759 (lv_at hl 4 rfl) ?_
            refine lv_iconst (v := nI 1) hx hb d_La_law_761 (by decide +kernel) ?_
            refine lv_iadd hx hb d_La_law_762 ?_
            refine aw_ti (nI_add (6 * t) 1) ?_
            refine va_sld hx hb hX hbl hbA hS (i := (nI ((6 * t) + 1))) (vp_in_nI (by omega) (by omega)) d_La_law_763 ?_
            refine aw_ti (y := nI j) (by rw [nI_clamp (by omega)]; exact hc0.symm) ?_
            refine lv_aload_n hx hb d_La_law_764 rfl (lv_at hl 0 rfl) ?_
            refine lv_iload hx hb d_La_law_765 (lv_at hl 4 rfl) ?_
            refine lv_iconst (v := nI 2) hx hb d_La_law_767 (by decide +kernel) ?_
            refine lv_iadd hx hb d_La_law_768 ?_
            refine aw_ti (nI_add (6 * t) 2) ?_
            refine va_sld hx hb hX hbl hbA hS (i := (nI ((6 * t) + 2))) (vp_in_nI (by omega) (by omega)) d_La_law_769 ?_
            refine aw_ti (y := nI k) (by rw [nI_clamp (by omega)]; exact hfr.symm) ?_
            refine lv_aload_n hx hb d_La_law_770 rfl (lv_at hl 0 rfl) ?_
            refine lv_iload hx hb d_La_law_771 (lv_at hl 4 rfl) ?_
            refine lv_iconst (v := nI 3) hx hb d_La_law_773 (by decide +kernel) ?_
            refine lv_iadd hx hb d_La_law_774 ?_
            refine aw_ti (nI_add (6 * t) 3) ?_
            refine va_sld hx hb hX hbl hbA hS (i := (nI ((6 * t) + 3))) (vp_in_nI (by omega) (by omega)) d_La_law_775 ?_
            refine aw_ti (y := nI mm) (by rw [nI_clamp (by omega)]; exact hm0.symm) ?_
            refine lv_aload_n hx hb d_La_law_776 rfl (lv_at hl 3 rfl) ?_
            refine va_calli (vx_runSW (As := [.ref (aw_r ad 0), .int (nI j), .int (nI k), .int (nI mm), .ref (aw_o ad)]) (rest := []) ⟨hx, hb, hml, hown, hG⟩ (k_La_takeXs1V l hst D g ad N0 zG zO zX zY zA zB zM zI zL zK zN zF zQ j k mm hj (by omega) (by omega) (by omega)) (aw_wW 5 hG gw_8_40 gw_8_38 gw_0_0 gw_8_39 rfl rfl hd_La_take ⟨Nat.le_of_ble_eq_true rfl, Nat.le_of_ble_eq_true rfl⟩) (ag_qS hP hD hSh hU hS) rfl rfl hl.1 rfl (lv_room (Nat.le_of_ble_eq_true rfl)) d_La_law_777 ⟨by omega, by omega⟩) hS (fun _ _ h => h) (fun _ h => h) ?_
            clear hP hD hSh hS
            intro x441 u8 t8 H locs ht _ ex441 hB _ _ hS
            obtain ⟨L, hP, hD, hSh⟩ := hB
            rw [ht] at hP
            clear ht
            subst ex441
            refine lv_istore hx hb d_La_law_780 hl (by decide) rfl (fun ls hl => ?_)
            have hl : lv_has ls 8 [(5, .int (nI 2)), (0, .ref b), (1, .ref (aw_r ad 0)), (2, .ref (aw_m ad 0)), (3, .ref (aw_o ad)), (4, .int (nI (6 * t)))] := hl
            refine lv_aload_n hx hb d_La_law_782 rfl (lv_at hl 3 rfl) ?_
            refine lv_aload_n hx hb d_La_law_783 rfl (lv_at hl 1 rfl) ?_
            refine lv_iload hx hb d_La_law_784 (lv_at hl 5 rfl) ?_
            refine lv_iconst (v := nI 1) hx hb d_La_law_786 (by decide +kernel) ?_
            refine lv_iadd hx hb d_La_law_787 ?_
            refine aw_ti (nI_add (6 * t) 1) ?_
            refine va_sld hx hb hX hbl hbA hS (i := (nI ((6 * t) + 1))) (vp_in_nI (by omega) (by omega)) d_La_law_788 ?_
            refine aw_ti (y := nI j) (by rw [nI_clamp (by omega)]; exact hc0.symm) ?_
            refine lv_aload_n hx hb d_La_law_789 rfl (lv_at hl 1 rfl) ?_
            refine lv_iload hx hb d_La_law_790 (lv_at hl 5 rfl) ?_
            refine lv_iconst (v := nI 2) hx hb d_La_law_792 (by decide +kernel) ?_
            refine lv_iadd hx hb d_La_law_793 ?_
            refine aw_ti (nI_add (6 * t) 2) ?_
            refine va_sld hx hb hX hbl hbA hS (i := (nI ((6 * t) + 2))) (vp_in_nI (by omega) (by omega)) d_La_law_794 ?_
            refine aw_ti (y := nI k) (by rw [nI_clamp (by omega)]; exact hfr.symm) ?_
            refine lv_aload_n hx hb d_La_law_795 rfl (lv_at hl 1 rfl) ?_
            refine lv_iload hx hb d_La_law_796 (lv_at hl 5 rfl) ?_
            refine lv_iconst (v := nI 3) hx hb d_La_law_798 (by decide +kernel) ?_
            refine lv_iadd hx hb d_La_law_799 ?_
            refine aw_ti (nI_add (6 * t) 3) ?_
            refine va_sld hx hb hX hbl hbA hS (i := (nI ((6 * t) + 3))) (vp_in_nI (by omega) (by omega)) d_La_law_800 ?_
            refine aw_ti (y := nI mm) (by rw [nI_clamp (by omega)]; exact hm0.symm) ?_
            obtain ⟨_, he442⟩ := zr_M0 hSh
            refine va_calli (va_runV (As := [.int (nI j), .int (nI k), .int (nI mm)]) (rest := []) ⟨hx, hb, hml, hown, hG⟩ (k_Mo_takeXsV l D g ad N0 zG zO zX zY zA zB zM zI zL zK zN zF zQ j k mm hj (by omega) (by omega)) (aw_wV 3 hG gw_12_49 gw_12_46 gw_0_10 gw_12_47 gw_12_48 rfl rfl hd_Mo_take ⟨Nat.le_of_ble_eq_true rfl, Nat.le_of_ble_eq_true rfl⟩) (ag_qV (va_recv hK hP rfl he442) hP hD hSh hU hS) rfl rfl hl.1 rfl (lv_room (Nat.le_of_ble_eq_true rfl)) d_La_law_801 ⟨by omega, by omega⟩) hS (fun _ _ h => h) (fun _ h => h) ?_
            clear hP hD hSh hS he442
            intro x443 u8 t8 H locs ht _ ex443 hB _ _ hS
            obtain ⟨L, hP, hD, hSh⟩ := hB
            rw [ht] at hP
            clear ht
            have ex443 := ex443.symm
            refine lv_istore hx hb d_La_law_804 hl (by decide) rfl (fun ls hl => ?_)
            have hl : lv_has ls 8 [(6, .int x443), (5, .int (nI 2)), (0, .ref b), (1, .ref (aw_r ad 0)), (2, .ref (aw_m ad 0)), (3, .ref (aw_o ad)), (4, .int (nI (6 * t)))] := hl
            refine lv_goto (tgt := 837) hx hb d_La_law_806 (by decide) ?_
            refine lv_iinc (k := 6) (v := nI (6 * t + 6)) hx hb d_La_law_837 hl rfl (aw_inc (6 * t) 6 6 (by decide +kernel)) (by decide) rfl (fun ls hl => ?_)
            have hl : lv_has ls 8 [(4, .int (nI (6 * t + 6))), (6, .int x443), (5, .int (nI 2)), (0, .ref b), (1, .ref (aw_r ad 0)), (2, .ref (aw_m ad 0)), (3, .ref (aw_o ad))] := hl
            refine lv_goto (tgt := 23) hx hb d_La_law_840 (by decide) ?_
            have hl := lv_sub hl (l' := [(0, .ref b), (1, .ref (aw_r ad 0)), (2, .ref (aw_m ad 0)), (3, .ref (aw_o ad)), (4, .int (nI (6 * t + 6)))]) [3, 4, 5, 6, 0] rfl
            refine W.widen (k := 85 + (t + 1)) (n := 1246 + 6 * (t + 1)) (by omega) (by omega) ?_
            exact ih (t + 1) zG zO zX zY zA zB zM zI zL zK zN (nI 2) zQ _ _ L ls (by omega) hP hD hSh hR hS (by first | exact hl | simpa [Nat.mul_add] using hl)
    · refine aw_ti (y := nI 12) (by rw [hs3]) ?_
      refine lv_tableIn (tgt := 809) (off := 769) hx hb d_La_law_40 (by decide +kernel) (by decide +kernel) (by decide +kernel) (by decide) ?_
      obtain ⟨c0, hc0⟩ : ∃ z : Int32, z = xs (6 * t + 1) := ⟨_, rfl⟩
      rcases aw_rng 4 (by decide) c0 with hc | ⟨j, hj, rfl⟩
      · refine lv_aload_n hx hb d_La_law_809 rfl (lv_at hl 1 rfl) ?_
        refine lv_aload_n hx hb d_La_law_810 rfl (lv_at hl 0 rfl) ?_
        refine lv_iload hx hb d_La_law_811 (lv_at hl 4 rfl) ?_
        refine lv_iconst (v := nI 1) hx hb d_La_law_813 (by decide +kernel) ?_
        refine lv_iadd hx hb d_La_law_814 ?_
        refine aw_ti (nI_add (6 * t) 1) ?_
        refine va_sld hx hb hX hbl hbA hS (i := (nI ((6 * t) + 1))) (vp_in_nI (by omega) (by omega)) d_La_law_815 ?_
        refine aw_ti (y := c0) (by rw [nI_clamp (by omega)]; exact hc0.symm) ?_
        refine lv_aload_n hx hb d_La_law_816 rfl (lv_at hl 3 rfl) ?_
        refine va_calli (vx_runSW (As := [.ref (aw_r ad 0), .int c0, .ref (aw_o ad)]) (rest := []) ⟨hx, hb, hml, hown, hG⟩ (k_La_tagXcV l hst D g ad N0 zG zO zX zY zA zB zM zI zL zK zN zF zQ c0 hc) (aw_wW 3 hG gw_9_2 gw_9_0 gw_0_0 gw_9_1 rfl rfl hd_La_tag ⟨Nat.le_of_ble_eq_true rfl, Nat.le_of_ble_eq_true rfl⟩) (ag_qS hP hD hSh hU hS) rfl rfl hl.1 rfl (lv_room (Nat.le_of_ble_eq_true rfl)) d_La_law_817 ⟨by omega, by omega⟩) hS (fun _ _ h => h) (fun _ h => h) ?_
        clear hP hD hSh hS
        intro x444 u8 t8 H locs ht _ ex444 hB _ _ hS
        obtain ⟨L, hP, hD, hSh⟩ := hB
        rw [ht] at hP
        clear ht
        subst ex444
        refine lv_istore hx hb d_La_law_820 hl (by decide) rfl (fun ls hl => ?_)
        have hl : lv_has ls 8 [(5, .int (nI 1)), (0, .ref b), (1, .ref (aw_r ad 0)), (2, .ref (aw_m ad 0)), (3, .ref (aw_o ad)), (4, .int (nI (6 * t)))] := hl
        refine lv_aload_n hx hb d_La_law_822 rfl (lv_at hl 3 rfl) ?_
        refine lv_aload_n hx hb d_La_law_823 rfl (lv_at hl 1 rfl) ?_
        refine lv_iload hx hb d_La_law_824 (lv_at hl 5 rfl) ?_
        refine lv_iconst (v := nI 1) hx hb d_La_law_826 (by decide +kernel) ?_
        refine lv_iadd hx hb d_La_law_827 ?_
        refine aw_ti (nI_add (6 * t) 1) ?_
        refine va_sld hx hb hX hbl hbA hS (i := (nI ((6 * t) + 1))) (vp_in_nI (by omega) (by omega)) d_La_law_828 ?_
        refine aw_ti (y := c0) (by rw [nI_clamp (by omega)]; exact hc0.symm) ?_
        obtain ⟨_, he445⟩ := zr_M0 hSh
        refine va_calll (va_runV (As := [.int c0]) (rest := []) ⟨hx, hb, hml, hown, hG⟩ (k_Mo_tagXcV l D g ad N0 zG zO zX zY zA zB zM zI zL zK zN zF zQ c0 hc) (aw_wV 1 hG gw_12_56 gw_12_53 gw_0_10 gw_12_54 gw_12_55 rfl rfl hd_Mo_tag ⟨Nat.le_of_ble_eq_true rfl, Nat.le_of_ble_eq_true rfl⟩) (ag_qV (va_recv hK hP rfl he445) hP hD hSh hU hS) rfl rfl hl.1 rfl (lv_room (Nat.le_of_ble_eq_true rfl)) d_La_law_829 ⟨by omega, by omega⟩) hS (fun _ _ h => h) (fun _ h => h) ?_
        clear hP hD hSh hS he445
        intro y446 u8 t8 H locs ht _ ey446 hB _ _ hS
        obtain ⟨L, hP, hD, hSh⟩ := hB
        rw [ht] at hP
        clear ht
        have ey446 := ey446.symm
        refine lv_lstore hx hb d_La_law_832 hl (by decide) rfl (fun ls hl => ?_)
        have hl : lv_has ls 8 [(6, .long y446), (5, .int (nI 1)), (0, .ref b), (1, .ref (aw_r ad 0)), (2, .ref (aw_m ad 0)), (3, .ref (aw_o ad)), (4, .int (nI (6 * t)))] := hl
        refine lv_goto (tgt := 837) hx hb d_La_law_834 (by decide) ?_
        refine lv_iinc (k := 6) (v := nI (6 * t + 6)) hx hb d_La_law_837 hl rfl (aw_inc (6 * t) 6 6 (by decide +kernel)) (by decide) rfl (fun ls hl => ?_)
        have hl : lv_has ls 8 [(4, .int (nI (6 * t + 6))), (6, .long y446), (5, .int (nI 1)), (0, .ref b), (1, .ref (aw_r ad 0)), (2, .ref (aw_m ad 0)), (3, .ref (aw_o ad))] := hl
        refine lv_goto (tgt := 23) hx hb d_La_law_840 (by decide) ?_
        have hl := lv_sub hl (l' := [(0, .ref b), (1, .ref (aw_r ad 0)), (2, .ref (aw_m ad 0)), (3, .ref (aw_o ad)), (4, .int (nI (6 * t + 6)))]) [3, 4, 5, 6, 0] rfl
        refine W.widen (k := 85 + (t + 1)) (n := 1246 + 6 * (t + 1)) (by omega) (by omega) ?_
        exact ih (t + 1) zG zO zX zY zA zB zM zI zL zK zN (nI 1) zQ _ _ L ls (by omega) hP hD hSh hR hS (by first | exact hl | simpa [Nat.mul_add] using hl)
      · have hgj := hSh.2.2.2.2.1 j hj
        have hq1 : (zM j).1 = (zG j).1 := by rw [hR.1 j hj]
        have hq2 : (zM j).2 = (zG j).2 := by rw [hR.1 j hj]
        by_cases hs : (zG j).1 = 3 ∧ (zG j).2 = 5
        · obtain ⟨kc, hkc, hci, hco⟩ := hR.2.1 j hj (by omega)
          refine lv_aload_n hx hb d_La_law_809 rfl (lv_at hl 1 rfl) ?_
          refine lv_aload_n hx hb d_La_law_810 rfl (lv_at hl 0 rfl) ?_
          refine lv_iload hx hb d_La_law_811 (lv_at hl 4 rfl) ?_
          refine lv_iconst (v := nI 1) hx hb d_La_law_813 (by decide +kernel) ?_
          refine lv_iadd hx hb d_La_law_814 ?_
          refine aw_ti (nI_add (6 * t) 1) ?_
          refine va_sld hx hb hX hbl hbA hS (i := (nI ((6 * t) + 1))) (vp_in_nI (by omega) (by omega)) d_La_law_815 ?_
          refine aw_ti (y := nI j) (by rw [nI_clamp (by omega)]; exact hc0.symm) ?_
          refine lv_aload_n hx hb d_La_law_816 rfl (lv_at hl 3 rfl) ?_
          refine va_calli (vx_runSW (As := [.ref (aw_r ad 0), .int (nI j), .ref (aw_o ad)]) (rest := []) ⟨hx, hb, hml, hown, hG⟩ (k_La_tag1V l hst D g ad N0 zG zO zX zY zA zB zM zI zL zK zN zF zQ j hj (by omega)) (aw_wW 3 hG gw_9_2 gw_9_0 gw_0_0 gw_9_1 rfl rfl hd_La_tag ⟨Nat.le_of_ble_eq_true rfl, Nat.le_of_ble_eq_true rfl⟩) (ag_qS hP hD hSh hU hS) rfl rfl hl.1 rfl (lv_room (Nat.le_of_ble_eq_true rfl)) d_La_law_817 ⟨by omega, by omega⟩) hS (fun _ _ h => h) (fun _ h => h) ?_
          clear hP hD hSh hS
          intro x447 u8 t8 H locs ht _ ex447 hB _ _ hS
          obtain ⟨L, hP, hD, hSh⟩ := hB
          rw [ht] at hP
          clear ht
          subst ex447
          obtain ⟨zX448, ezX448⟩ : ∃ z : Nat → Nat → Int64, v_La_tag1V_zX zO zX zY zA j = z := ⟨_, rfl⟩
          rw [ezX448] at hSh
          obtain ⟨zY449, ezY449⟩ : ∃ z : Nat → Nat → Int32, v_La_tag1V_zY zO zX zY zA j = z := ⟨_, rfl⟩
          rw [ezY449] at hSh
          obtain ⟨zQ450, ezQ450⟩ : ∃ z : Int64, v_La_tag1V_zQ zO zX zY zA j = z := ⟨_, rfl⟩
          rw [ezQ450] at hSh
          refine lv_istore hx hb d_La_law_820 hl (by decide) rfl (fun ls hl => ?_)
          have hl : lv_has ls 8 [(5, .int (nI 0)), (0, .ref b), (1, .ref (aw_r ad 0)), (2, .ref (aw_m ad 0)), (3, .ref (aw_o ad)), (4, .int (nI (6 * t)))] := hl
          refine lv_aload_n hx hb d_La_law_822 rfl (lv_at hl 3 rfl) ?_
          refine lv_aload_n hx hb d_La_law_823 rfl (lv_at hl 1 rfl) ?_
          refine lv_iload hx hb d_La_law_824 (lv_at hl 5 rfl) ?_
          refine lv_iconst (v := nI 1) hx hb d_La_law_826 (by decide +kernel) ?_
          refine lv_iadd hx hb d_La_law_827 ?_
          refine aw_ti (nI_add (6 * t) 1) ?_
          refine va_sld hx hb hX hbl hbA hS (i := (nI ((6 * t) + 1))) (vp_in_nI (by omega) (by omega)) d_La_law_828 ?_
          refine aw_ti (y := nI j) (by rw [nI_clamp (by omega)]; exact hc0.symm) ?_
          obtain ⟨_, he451⟩ := zr_M0 hSh
          refine va_calll (va_runV (As := [.int (nI j)]) (rest := []) ⟨hx, hb, hml, hown, hG⟩ (k_Mo_tag1V l D g ad N0 zG zO zX448 zY449 zA zB zM zI zL zK zN zF zQ450 j kc hj (by omega) hkc hci) (aw_wV 1 hG gw_12_56 gw_12_53 gw_0_10 gw_12_54 gw_12_55 rfl rfl hd_Mo_tag ⟨Nat.le_of_ble_eq_true rfl, Nat.le_of_ble_eq_true rfl⟩) (ag_qV (va_recv hK hP rfl he451) hP hD hSh hU hS) rfl rfl hl.1 rfl (lv_room (Nat.le_of_ble_eq_true rfl)) d_La_law_829 ⟨by omega, by omega⟩) hS (fun _ _ h => h) (fun _ h => h) ?_
          clear hP hD hSh hS he451
          intro y452 u8 t8 H locs ht _ ey452 hB _ _ hS
          obtain ⟨L, hP, hD, hSh⟩ := hB
          rw [ht] at hP
          clear ht
          obtain ⟨zI453, ezI453⟩ : ∃ z : Nat → Nat → Int32, v_Mo_tag1V_zI zI zL j kc = z := ⟨_, rfl⟩
          rw [ezI453] at hSh
          obtain ⟨zL454, ezL454⟩ : ∃ z : Nat → Nat → Int64, v_Mo_tag1V_zL zI zL j kc = z := ⟨_, rfl⟩
          rw [ezL454] at hSh
          have ey452 := ey452.symm
          refine lv_lstore hx hb d_La_law_832 hl (by decide) rfl (fun ls hl => ?_)
          have hl : lv_has ls 8 [(6, .long y452), (5, .int (nI 0)), (0, .ref b), (1, .ref (aw_r ad 0)), (2, .ref (aw_m ad 0)), (3, .ref (aw_o ad)), (4, .int (nI (6 * t)))] := hl
          refine lv_goto (tgt := 837) hx hb d_La_law_834 (by decide) ?_
          refine lv_iinc (k := 6) (v := nI (6 * t + 6)) hx hb d_La_law_837 hl rfl (aw_inc (6 * t) 6 6 (by decide +kernel)) (by decide) rfl (fun ls hl => ?_)
          have hl : lv_has ls 8 [(4, .int (nI (6 * t + 6))), (6, .long y452), (5, .int (nI 0)), (0, .ref b), (1, .ref (aw_r ad 0)), (2, .ref (aw_m ad 0)), (3, .ref (aw_o ad))] := hl
          refine lv_goto (tgt := 23) hx hb d_La_law_840 (by decide) ?_
          have hl := lv_sub hl (l' := [(0, .ref b), (1, .ref (aw_r ad 0)), (2, .ref (aw_m ad 0)), (3, .ref (aw_o ad)), (4, .int (nI (6 * t + 6)))]) [3, 4, 5, 6, 0] rfl
          refine W.widen (k := 85 + (t + 1)) (n := 1246 + 6 * (t + 1)) (by omega) (by omega) ?_
          have hR : az_R zG zO zX448 zY449 zA zB zM zI453 zL454 := by
            subst ey452 ezL454 ezI453 ezQ450 ezY449 ezX448
            exact r_tag1 hR hj hs hkc hci hco
          exact ih (t + 1) zG zO zX448 zY449 zA zB zM zI453 zL454 (nI kc) (az_wn kc) (nI 0) zQ450 _ _ L ls (by omega) hP hD hSh hR hS (by first | exact hl | simpa [Nat.mul_add] using hl)
        · refine lv_aload_n hx hb d_La_law_809 rfl (lv_at hl 1 rfl) ?_
          refine lv_aload_n hx hb d_La_law_810 rfl (lv_at hl 0 rfl) ?_
          refine lv_iload hx hb d_La_law_811 (lv_at hl 4 rfl) ?_
          refine lv_iconst (v := nI 1) hx hb d_La_law_813 (by decide +kernel) ?_
          refine lv_iadd hx hb d_La_law_814 ?_
          refine aw_ti (nI_add (6 * t) 1) ?_
          refine va_sld hx hb hX hbl hbA hS (i := (nI ((6 * t) + 1))) (vp_in_nI (by omega) (by omega)) d_La_law_815 ?_
          refine aw_ti (y := nI j) (by rw [nI_clamp (by omega)]; exact hc0.symm) ?_
          refine lv_aload_n hx hb d_La_law_816 rfl (lv_at hl 3 rfl) ?_
          refine va_calli (vx_runSW (As := [.ref (aw_r ad 0), .int (nI j), .ref (aw_o ad)]) (rest := []) ⟨hx, hb, hml, hown, hG⟩ (k_La_tagXsV l hst D g ad N0 zG zO zX zY zA zB zM zI zL zK zN zF zQ j hj (by omega)) (aw_wW 3 hG gw_9_2 gw_9_0 gw_0_0 gw_9_1 rfl rfl hd_La_tag ⟨Nat.le_of_ble_eq_true rfl, Nat.le_of_ble_eq_true rfl⟩) (ag_qS hP hD hSh hU hS) rfl rfl hl.1 rfl (lv_room (Nat.le_of_ble_eq_true rfl)) d_La_law_817 ⟨by omega, by omega⟩) hS (fun _ _ h => h) (fun _ h => h) ?_
          clear hP hD hSh hS
          intro x455 u8 t8 H locs ht _ ex455 hB _ _ hS
          obtain ⟨L, hP, hD, hSh⟩ := hB
          rw [ht] at hP
          clear ht
          subst ex455
          refine lv_istore hx hb d_La_law_820 hl (by decide) rfl (fun ls hl => ?_)
          have hl : lv_has ls 8 [(5, .int (nI 2)), (0, .ref b), (1, .ref (aw_r ad 0)), (2, .ref (aw_m ad 0)), (3, .ref (aw_o ad)), (4, .int (nI (6 * t)))] := hl
          refine lv_aload_n hx hb d_La_law_822 rfl (lv_at hl 3 rfl) ?_
          refine lv_aload_n hx hb d_La_law_823 rfl (lv_at hl 1 rfl) ?_
          refine lv_iload hx hb d_La_law_824 (lv_at hl 5 rfl) ?_
          refine lv_iconst (v := nI 1) hx hb d_La_law_826 (by decide +kernel) ?_
          refine lv_iadd hx hb d_La_law_827 ?_
          refine aw_ti (nI_add (6 * t) 1) ?_
          refine va_sld hx hb hX hbl hbA hS (i := (nI ((6 * t) + 1))) (vp_in_nI (by omega) (by omega)) d_La_law_828 ?_
          refine aw_ti (y := nI j) (by rw [nI_clamp (by omega)]; exact hc0.symm) ?_
          obtain ⟨_, he456⟩ := zr_M0 hSh
          refine va_calll (va_runV (As := [.int (nI j)]) (rest := []) ⟨hx, hb, hml, hown, hG⟩ (k_Mo_tagXsV l D g ad N0 zG zO zX zY zA zB zM zI zL zK zN zF zQ j hj (by omega)) (aw_wV 1 hG gw_12_56 gw_12_53 gw_0_10 gw_12_54 gw_12_55 rfl rfl hd_Mo_tag ⟨Nat.le_of_ble_eq_true rfl, Nat.le_of_ble_eq_true rfl⟩) (ag_qV (va_recv hK hP rfl he456) hP hD hSh hU hS) rfl rfl hl.1 rfl (lv_room (Nat.le_of_ble_eq_true rfl)) d_La_law_829 ⟨by omega, by omega⟩) hS (fun _ _ h => h) (fun _ h => h) ?_
          clear hP hD hSh hS he456
          intro y457 u8 t8 H locs ht _ ey457 hB _ _ hS
          obtain ⟨L, hP, hD, hSh⟩ := hB
          rw [ht] at hP
          clear ht
          have ey457 := ey457.symm
          refine lv_lstore hx hb d_La_law_832 hl (by decide) rfl (fun ls hl => ?_)
          have hl : lv_has ls 8 [(6, .long y457), (5, .int (nI 2)), (0, .ref b), (1, .ref (aw_r ad 0)), (2, .ref (aw_m ad 0)), (3, .ref (aw_o ad)), (4, .int (nI (6 * t)))] := hl
          refine lv_goto (tgt := 837) hx hb d_La_law_834 (by decide) ?_
          refine lv_iinc (k := 6) (v := nI (6 * t + 6)) hx hb d_La_law_837 hl rfl (aw_inc (6 * t) 6 6 (by decide +kernel)) (by decide) rfl (fun ls hl => ?_)
          have hl : lv_has ls 8 [(4, .int (nI (6 * t + 6))), (6, .long y457), (5, .int (nI 2)), (0, .ref b), (1, .ref (aw_r ad 0)), (2, .ref (aw_m ad 0)), (3, .ref (aw_o ad))] := hl
          refine lv_goto (tgt := 23) hx hb d_La_law_840 (by decide) ?_
          have hl := lv_sub hl (l' := [(0, .ref b), (1, .ref (aw_r ad 0)), (2, .ref (aw_m ad 0)), (3, .ref (aw_o ad)), (4, .int (nI (6 * t + 6)))]) [3, 4, 5, 6, 0] rfl
          refine W.widen (k := 85 + (t + 1)) (n := 1246 + 6 * (t + 1)) (by omega) (by omega) ?_
          exact ih (t + 1) zG zO zX zY zA zB zM zI zL zK zN (nI 2) zQ _ _ L ls (by omega) hP hD hSh hR hS (by first | exact hl | simpa [Nat.mul_add] using hl)
    · refine aw_ti (y := nI 13) (by rw [hs3]) ?_
      refine lv_tableOut (tgt := 837) hx hb d_La_law_40 (by decide +kernel) (by decide) ?_
      refine lv_iinc (k := 4) (v := nI (6 * t + 6)) hx hb d_La_law_837 hl rfl (aw_inc (6 * t) 6 6 (by decide +kernel)) (by decide) rfl (fun ls hl => ?_)
      have hl : lv_has ls 8 [(4, .int (nI (6 * t + 6))), (0, .ref b), (1, .ref (aw_r ad 0)), (2, .ref (aw_m ad 0)), (3, .ref (aw_o ad))] := hl
      refine lv_goto (tgt := 23) hx hb d_La_law_840 (by decide) ?_
      have hl := lv_sub hl (l' := [(0, .ref b), (1, .ref (aw_r ad 0)), (2, .ref (aw_m ad 0)), (3, .ref (aw_o ad)), (4, .int (nI (6 * t + 6)))]) [1, 2, 3, 4, 0] rfl
      refine W.widen (k := 85 + (t + 1)) (n := 1246 + 6 * (t + 1)) (by omega) (by omega) ?_
      exact ih (t + 1) zG zO zX zY zA zB zM zI zL zK zN zF zQ _ _ L ls (by omega) hP hD hSh hR hS (by first | exact hl | simpa [Nat.mul_add] using hl)
    · refine aw_ti (y := nI 14) (by rw [hs3]) ?_
      refine lv_tableOut (tgt := 837) hx hb d_La_law_40 (by decide +kernel) (by decide) ?_
      refine lv_iinc (k := 4) (v := nI (6 * t + 6)) hx hb d_La_law_837 hl rfl (aw_inc (6 * t) 6 6 (by decide +kernel)) (by decide) rfl (fun ls hl => ?_)
      have hl : lv_has ls 8 [(4, .int (nI (6 * t + 6))), (0, .ref b), (1, .ref (aw_r ad 0)), (2, .ref (aw_m ad 0)), (3, .ref (aw_o ad))] := hl
      refine lv_goto (tgt := 23) hx hb d_La_law_840 (by decide) ?_
      have hl := lv_sub hl (l' := [(0, .ref b), (1, .ref (aw_r ad 0)), (2, .ref (aw_m ad 0)), (3, .ref (aw_o ad)), (4, .int (nI (6 * t + 6)))]) [1, 2, 3, 4, 0] rfl
      refine W.widen (k := 85 + (t + 1)) (n := 1246 + 6 * (t + 1)) (by omega) (by omega) ?_
      exact ih (t + 1) zG zO zX zY zA zB zM zI zL zK zN zF zQ _ _ L ls (by omega) hP hD hSh hR hS (by first | exact hl | simpa [Nat.mul_add] using hl)
    · refine aw_ti (y := nI 15) (by rw [hs3]) ?_
      refine lv_tableOut (tgt := 837) hx hb d_La_law_40 (by decide +kernel) (by decide) ?_
      refine lv_iinc (k := 4) (v := nI (6 * t + 6)) hx hb d_La_law_837 hl rfl (aw_inc (6 * t) 6 6 (by decide +kernel)) (by decide) rfl (fun ls hl => ?_)
      have hl : lv_has ls 8 [(4, .int (nI (6 * t + 6))), (0, .ref b), (1, .ref (aw_r ad 0)), (2, .ref (aw_m ad 0)), (3, .ref (aw_o ad))] := hl
      refine lv_goto (tgt := 23) hx hb d_La_law_840 (by decide) ?_
      have hl := lv_sub hl (l' := [(0, .ref b), (1, .ref (aw_r ad 0)), (2, .ref (aw_m ad 0)), (3, .ref (aw_o ad)), (4, .int (nI (6 * t + 6)))]) [1, 2, 3, 4, 0] rfl
      refine W.widen (k := 85 + (t + 1)) (n := 1246 + 6 * (t + 1)) (by omega) (by omega) ?_
      exact ih (t + 1) zG zO zX zY zA zB zM zI zL zK zN zF zQ _ _ L ls (by omega) hP hD hSh hR hS (by first | exact hl | simpa [Nat.mul_add] using hl)
