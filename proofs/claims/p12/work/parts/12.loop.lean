set_option maxHeartbeats 40000000 in
set_option maxRecDepth 100000 in
theorem law_loop {p : Program} {e : Env} {s : State} {m : MethodId} {below : List Frame} {meth : Method} {c : Code} (l : Launch) (hst : l.stackTraces = false) {b Ln : Nat} {xs : Nat → Int32} (hLn : Ln ≤ 3072) (C0 : lw_At p s m meth c b Ln xs) {D : va_G} {g : Nat → ClassId} {ad : Nat → Nat} {N0 : Nat} (hN0e : N0 = s.heap.size) (hU : aw_U D g N0 s) :
    ∀ (d t : Nat) (G : Nat → Nat × Nat) (F : Int32) (H : Heap) (locs : List Loc) (L : va_W) (ls : Array Slot), t + d = Ln / 6 → va_P D aw_C L H → va_D (aw_Z N0) L → aw_Sh g ad G G F L → va_S (aw_Z N0) s.heap H locs → lv_has ls 8 [(0, .ref b), (1, .ref (aw_r ad 0)), (2, .ref (aw_m ad 0)), (3, .ref (aw_o ad)), (4, .int (nI (6 * t)))] → W p l e room_1 s m #[Value.ref b] below meth c H locs (85 + t) (1246 + 6 * t) (lw_Z below #[Value.ref b] s) (F0 m 23 ls []) := by
  obtain ⟨hx, hb, hr, hml, hown, hts, hX, hbl, hlocks, hgv⟩ := C0
  have hown : s.vm.findClass "RuleCiphersLaw" = some m.cls := hown
  have hG : ∀ w ∈ aw_G, w.before #[Value.ref b] s = true := fun w h => hts w (aw_GL w h)
  have hbA : ¬ aw_Z N0 b := fun h => by have h9 : N0 ≤ b := h; omega
  have hR1 : room_1.cells = 613841 := rfl
  have hR2 : room_1.slots = 7254581 := rfl
  have hE := hU.1
  have hK := hE.1
  have hN := hE.2.1
  intro d
  induction d with
  | zero =>
    intro t G F H locs L ls ht0 hP hD hSh hS hl
    by_cases h6 : 6 ≤ Ln
    · refine lv_iload hx hb d_La_law_23 (lv_at hl 4 rfl) ?_
      refine lv_aload_n hx hb d_La_law_25 rfl (lv_at hl 0 rfl) ?_
      refine va_slen hx hb hX hbl hbA hS d_La_law_26 ?_
      refine aw_ti (y := nI Ln) rfl ?_
      refine lv_bipush (v := nI 6) hx hb d_La_law_27 (by decide +kernel) ?_
      refine lv_isub hx hb d_La_law_29 ?_
      refine aw_ti (pk_sub (a := Ln) (b := 6) (by omega)) ?_
      refine lv_icmp_gt (tgt := 843) hx hb d_La_law_30 (by decide) (fun _ => ?_) (fun h => absurd (show nI (Ln - 6) < nI (6 * t) from (nI_ltI (by omega) (by omega)).mpr (by omega)) h)
      refine lv_iconst (v := 1) hx hb d_La_law_843 (by decide +kernel) ?_
      refine va_forget (fun q hq => by have h9 := hS.2.2 q hq; rw [← hN0e]; exact h9) ?_
      refine W.widen (k := 613841) (n := 7254581) (by omega) (by omega) ?_
      exact lw_ret hx hb hr hlocks d_La_law_844
    · have ht1 : t = 0 := by omega
      subst ht1
      refine lv_iload hx hb d_La_law_23 (lv_at hl 4 rfl) ?_
      refine lv_aload_n hx hb d_La_law_25 rfl (lv_at hl 0 rfl) ?_
      refine va_slen hx hb hX hbl hbA hS d_La_law_26 ?_
      refine aw_ti (y := nI Ln) rfl ?_
      refine lv_bipush (v := nI 6) hx hb d_La_law_27 (by decide +kernel) ?_
      refine lv_isub hx hb d_La_law_29 ?_
      refine lv_icmp_gt (tgt := 843) hx hb d_La_law_30 (by decide) (fun _ => ?_) (fun h => absurd (show nI Ln - nI 6 < nI (6 * 0) from pk_sneg (by decide) (by omega)) h)
      refine lv_iconst (v := 1) hx hb d_La_law_843 (by decide +kernel) ?_
      refine va_forget (fun q hq => by have h9 := hS.2.2 q hq; rw [← hN0e]; exact h9) ?_
      refine W.widen (k := 613841) (n := 7254581) (by omega) (by omega) ?_
      exact lw_ret hx hb hr hlocks d_La_law_844
  | succ d ih =>
    intro t G F H locs L ls ht0 hP hD hSh hS hl
    refine lv_iload hx hb d_La_law_23 (lv_at hl 4 rfl) ?_
    refine lv_aload_n hx hb d_La_law_25 rfl (lv_at hl 0 rfl) ?_
    refine va_slen hx hb hX hbl hbA hS d_La_law_26 ?_
    refine aw_ti (y := nI Ln) rfl ?_
    refine lv_bipush (v := nI 6) hx hb d_La_law_27 (by decide +kernel) ?_
    refine lv_isub hx hb d_La_law_29 ?_
    refine aw_ti (pk_sub (a := Ln) (b := 6) (by omega)) ?_
    refine lv_icmp_gt (tgt := 843) hx hb d_La_law_30 (by decide) (fun h => absurd h (show ¬ nI (Ln - 6) < nI (6 * t) from fun h9 => absurd ((nI_ltI (by omega) (by omega)).mp h9) (by omega))) (fun _ => ?_)
    refine lv_aload_n hx hb d_La_law_33 rfl (lv_at hl 0 rfl) ?_
    refine lv_iload hx hb d_La_law_34 (lv_at hl 4 rfl) ?_
    refine va_sld hx hb hX hbl hbA hS (i := (nI (6 * t))) (vp_in_nI (by omega) (by omega)) d_La_law_36 ?_
    refine lv_topi (fun x1 _ => ?_)
    refine lv_bipush (v := nI 15) hx hb d_La_law_37 (by decide +kernel) ?_
    refine lv_iand hx hb d_La_law_39 ?_
    obtain ⟨k2, hk2, ek2⟩ := pk_andE x1 (m := nI 15) 4 (by decide +kernel)
    refine aw_ti ek2 ?_
    rcases (by omega : k2 = 0 ∨ k2 = 1 ∨ k2 = 2 ∨ k2 = 3 ∨ k2 = 4 ∨ k2 = 5 ∨ k2 = 6 ∨ k2 = 7 ∨ k2 = 8 ∨ k2 = 9 ∨ k2 = 10 ∨ k2 = 11 ∨ k2 = 12 ∨ k2 = 13 ∨ k2 = 14 ∨ k2 = 15) with hs3 | hs3 | hs3 | hs3 | hs3 | hs3 | hs3 | hs3 | hs3 | hs3 | hs3 | hs3 | hs3 | hs3 | hs3 | hs3
    · refine aw_ti (y := nI 0) (by rw [hs3]) ?_
      refine lv_tableIn (tgt := 108) (off := 68) hx hb d_La_law_40 (by decide +kernel) (by decide +kernel) (by decide +kernel) (by decide) ?_
      obtain ⟨c0, hc0⟩ : ∃ z : Int32, z = xs (6 * t + 1) := ⟨_, rfl⟩
      obtain ⟨k0, hk0⟩ : ∃ z : Int32, z = xs (6 * t + 2) := ⟨_, rfl⟩
      rcases aw_rng 4 (by decide) c0 with hc | ⟨j, hj, rfl⟩
      · refine lv_aload_n hx hb d_La_law_108 rfl (lv_at hl 1 rfl) ?_
        refine lv_aload_n hx hb d_La_law_109 rfl (lv_at hl 0 rfl) ?_
        refine lv_iload hx hb d_La_law_110 (lv_at hl 4 rfl) ?_
        refine lv_iconst (v := nI 1) hx hb d_La_law_112 (by decide +kernel) ?_
        refine lv_iadd hx hb d_La_law_113 ?_
        refine aw_ti (nI_add (6 * t) 1) ?_
        refine va_sld hx hb hX hbl hbA hS (i := (nI ((6 * t) + 1))) (vp_in_nI (by omega) (by omega)) d_La_law_114 ?_
        refine aw_ti (y := c0) (by rw [nI_clamp (by omega)]; exact hc0.symm) ?_
        refine lv_aload_n hx hb d_La_law_115 rfl (lv_at hl 0 rfl) ?_
        refine lv_iload hx hb d_La_law_116 (lv_at hl 4 rfl) ?_
        refine lv_iconst (v := nI 2) hx hb d_La_law_118 (by decide +kernel) ?_
        refine lv_iadd hx hb d_La_law_119 ?_
        refine aw_ti (nI_add (6 * t) 2) ?_
        refine va_sld hx hb hX hbl hbA hS (i := (nI ((6 * t) + 2))) (vp_in_nI (by omega) (by omega)) d_La_law_120 ?_
        refine aw_ti (y := k0) (by rw [nI_clamp (by omega)]; exact hk0.symm) ?_
        refine va_calli (vx_runSW (As := [.ref (aw_r ad 0), .int c0, .int k0]) (rest := []) ⟨hx, hb, hml, hown, hG⟩ (k_La_chooseXc l hst D g ad G G F N0 c0 k0 hc) (aw_wW 3 hG gw_2_37 gw_2_35 gw_0_0 gw_2_36 rfl rfl hd_La_choose ⟨Nat.le_of_ble_eq_true rfl, Nat.le_of_ble_eq_true rfl⟩) (aw_qS hP hD hSh hU hS) rfl rfl hl.1 rfl (lv_room (Nat.le_of_ble_eq_true rfl)) d_La_law_121 ⟨by omega, by omega⟩) hS (fun _ _ h => h) (fun _ h => h) (fun x4 u8 t8 H locs ht _ hpx4 hB _ _ hS => ?_)
        obtain ⟨L, hP, hD, hSh⟩ := hB
        rw [ht] at hP
        clear ht
        subst hpx4
        refine lv_istore hx hb d_La_law_124 hl (by decide) rfl (fun ls hl => ?_)
        have hl : lv_has ls 8 [(5, .int (nI 1)), (0, .ref b), (1, .ref (aw_r ad 0)), (2, .ref (aw_m ad 0)), (3, .ref (aw_o ad)), (4, .int (nI (6 * t)))] := hl
        refine lv_aload_n hx hb d_La_law_126 rfl (lv_at hl 3 rfl) ?_
        refine lv_aload_n hx hb d_La_law_127 rfl (lv_at hl 1 rfl) ?_
        refine lv_iload hx hb d_La_law_128 (lv_at hl 5 rfl) ?_
        refine lv_iconst (v := nI 1) hx hb d_La_law_130 (by decide +kernel) ?_
        refine lv_iadd hx hb d_La_law_131 ?_
        refine aw_ti (nI_add (6 * t) 1) ?_
        refine va_sld hx hb hX hbl hbA hS (i := (nI ((6 * t) + 1))) (vp_in_nI (by omega) (by omega)) d_La_law_132 ?_
        refine aw_ti (y := c0) (by rw [nI_clamp (by omega)]; exact hc0.symm) ?_
        refine lv_aload_n hx hb d_La_law_133 rfl (lv_at hl 1 rfl) ?_
        refine lv_iload hx hb d_La_law_134 (lv_at hl 5 rfl) ?_
        refine lv_iconst (v := nI 2) hx hb d_La_law_136 (by decide +kernel) ?_
        refine lv_iadd hx hb d_La_law_137 ?_
        refine aw_ti (nI_add (6 * t) 2) ?_
        refine va_sld hx hb hX hbl hbA hS (i := (nI ((6 * t) + 2))) (vp_in_nI (by omega) (by omega)) d_La_law_138 ?_
        refine aw_ti (y := k0) (by rw [nI_clamp (by omega)]; exact hk0.symm) ?_
        obtain ⟨_, _, _, he5⟩ := rd_M0 hSh
        refine va_callv (va_runV (As := [.int c0, .int k0]) (rest := []) ⟨hx, hb, hml, hown, hG⟩ (k_Mo_chooseXc l D g ad G G F N0 c0 k0 hc) (aw_wV 2 hG gw_10_31 gw_10_28 gw_0_10 gw_10_29 gw_10_30 rfl rfl hd_Mo_choose ⟨Nat.le_of_ble_eq_true rfl, Nat.le_of_ble_eq_true rfl⟩) (aw_qV (va_recv hK hP rfl he5) hP hD hSh hU hS) rfl rfl hl.1 rfl (lv_room (Nat.le_of_ble_eq_true rfl)) d_La_law_139 ⟨by omega, by omega⟩) hS (fun _ _ h => h) (fun _ h => h) (fun u8 t8 H locs ht _ _ hB _ _ hS => ?_)
        obtain ⟨L, hP, hD, hSh⟩ := hB
        rw [ht] at hP
        clear ht
        refine lv_goto (tgt := 837) hx hb d_La_law_142 (by decide) ?_
        refine lv_iinc (k := 5) (v := nI (6 * t + 6)) hx hb d_La_law_837 hl rfl (aw_inc (6 * t) 6 6 (by decide +kernel)) (by decide) rfl (fun ls hl => ?_)
        have hl : lv_has ls 8 [(4, .int (nI (6 * t + 6))), (5, .int (nI 1)), (0, .ref b), (1, .ref (aw_r ad 0)), (2, .ref (aw_m ad 0)), (3, .ref (aw_o ad))] := hl
        refine lv_goto (tgt := 23) hx hb d_La_law_840 (by decide) ?_
        have hl := lv_sub hl (l' := [(0, .ref b), (1, .ref (aw_r ad 0)), (2, .ref (aw_m ad 0)), (3, .ref (aw_o ad)), (4, .int (nI (6 * t + 6)))]) [2, 3, 4, 5, 0] rfl
        refine W.widen (k := 85 + (t + 1)) (n := 1246 + 6 * (t + 1)) (by omega) (by omega) ?_
        exact ih (t + 1) G (nI 1) _ _ L ls (by omega) hP hD hSh hS (by first | exact hl | simpa [Nat.mul_add] using hl)
      · have hgj := hSh.2.2.2.2.1 j hj
        rcases aw_rng 5 (by decide) k0 with hk | ⟨k, hk, rfl⟩
        · refine lv_aload_n hx hb d_La_law_108 rfl (lv_at hl 1 rfl) ?_
          refine lv_aload_n hx hb d_La_law_109 rfl (lv_at hl 0 rfl) ?_
          refine lv_iload hx hb d_La_law_110 (lv_at hl 4 rfl) ?_
          refine lv_iconst (v := nI 1) hx hb d_La_law_112 (by decide +kernel) ?_
          refine lv_iadd hx hb d_La_law_113 ?_
          refine aw_ti (nI_add (6 * t) 1) ?_
          refine va_sld hx hb hX hbl hbA hS (i := (nI ((6 * t) + 1))) (vp_in_nI (by omega) (by omega)) d_La_law_114 ?_
          refine aw_ti (y := nI j) (by rw [nI_clamp (by omega)]; exact hc0.symm) ?_
          refine lv_aload_n hx hb d_La_law_115 rfl (lv_at hl 0 rfl) ?_
          refine lv_iload hx hb d_La_law_116 (lv_at hl 4 rfl) ?_
          refine lv_iconst (v := nI 2) hx hb d_La_law_118 (by decide +kernel) ?_
          refine lv_iadd hx hb d_La_law_119 ?_
          refine aw_ti (nI_add (6 * t) 2) ?_
          refine va_sld hx hb hX hbl hbA hS (i := (nI ((6 * t) + 2))) (vp_in_nI (by omega) (by omega)) d_La_law_120 ?_
          refine aw_ti (y := k0) (by rw [nI_clamp (by omega)]; exact hk0.symm) ?_
          refine va_calli (vx_runSW (As := [.ref (aw_r ad 0), .int (nI j), .int k0]) (rest := []) ⟨hx, hb, hml, hown, hG⟩ (k_La_chooseXa l hst D g ad G G F N0 j k0 hj hk) (aw_wW 3 hG gw_2_37 gw_2_35 gw_0_0 gw_2_36 rfl rfl hd_La_choose ⟨Nat.le_of_ble_eq_true rfl, Nat.le_of_ble_eq_true rfl⟩) (aw_qS hP hD hSh hU hS) rfl rfl hl.1 rfl (lv_room (Nat.le_of_ble_eq_true rfl)) d_La_law_121 ⟨by omega, by omega⟩) hS (fun _ _ h => h) (fun _ h => h) (fun x6 u8 t8 H locs ht _ hpx6 hB _ _ hS => ?_)
          obtain ⟨L, hP, hD, hSh⟩ := hB
          rw [ht] at hP
          clear ht
          subst hpx6
          refine lv_istore hx hb d_La_law_124 hl (by decide) rfl (fun ls hl => ?_)
          have hl : lv_has ls 8 [(5, .int (nI 2)), (0, .ref b), (1, .ref (aw_r ad 0)), (2, .ref (aw_m ad 0)), (3, .ref (aw_o ad)), (4, .int (nI (6 * t)))] := hl
          refine lv_aload_n hx hb d_La_law_126 rfl (lv_at hl 3 rfl) ?_
          refine lv_aload_n hx hb d_La_law_127 rfl (lv_at hl 1 rfl) ?_
          refine lv_iload hx hb d_La_law_128 (lv_at hl 5 rfl) ?_
          refine lv_iconst (v := nI 1) hx hb d_La_law_130 (by decide +kernel) ?_
          refine lv_iadd hx hb d_La_law_131 ?_
          refine aw_ti (nI_add (6 * t) 1) ?_
          refine va_sld hx hb hX hbl hbA hS (i := (nI ((6 * t) + 1))) (vp_in_nI (by omega) (by omega)) d_La_law_132 ?_
          refine aw_ti (y := nI j) (by rw [nI_clamp (by omega)]; exact hc0.symm) ?_
          refine lv_aload_n hx hb d_La_law_133 rfl (lv_at hl 1 rfl) ?_
          refine lv_iload hx hb d_La_law_134 (lv_at hl 5 rfl) ?_
          refine lv_iconst (v := nI 2) hx hb d_La_law_136 (by decide +kernel) ?_
          refine lv_iadd hx hb d_La_law_137 ?_
          refine aw_ti (nI_add (6 * t) 2) ?_
          refine va_sld hx hb hX hbl hbA hS (i := (nI ((6 * t) + 2))) (vp_in_nI (by omega) (by omega)) d_La_law_138 ?_
          refine aw_ti (y := k0) (by rw [nI_clamp (by omega)]; exact hk0.symm) ?_
          obtain ⟨_, _, _, he7⟩ := rd_M0 hSh
          refine va_callv (va_runV (As := [.int (nI j), .int k0]) (rest := []) ⟨hx, hb, hml, hown, hG⟩ (k_Mo_chooseXa l D g ad G G F N0 j k0 hj (aw_bnd 4 (by decide) hk)) (aw_wV 2 hG gw_10_31 gw_10_28 gw_0_10 gw_10_29 gw_10_30 rfl rfl hd_Mo_choose ⟨Nat.le_of_ble_eq_true rfl, Nat.le_of_ble_eq_true rfl⟩) (aw_qV (va_recv hK hP rfl he7) hP hD hSh hU hS) rfl rfl hl.1 rfl (lv_room (Nat.le_of_ble_eq_true rfl)) d_La_law_139 ⟨by omega, by omega⟩) hS (fun _ _ h => h) (fun _ h => h) (fun u8 t8 H locs ht _ _ hB _ _ hS => ?_)
          obtain ⟨L, hP, hD, hSh⟩ := hB
          rw [ht] at hP
          clear ht
          refine lv_goto (tgt := 837) hx hb d_La_law_142 (by decide) ?_
          refine lv_iinc (k := 5) (v := nI (6 * t + 6)) hx hb d_La_law_837 hl rfl (aw_inc (6 * t) 6 6 (by decide +kernel)) (by decide) rfl (fun ls hl => ?_)
          have hl : lv_has ls 8 [(4, .int (nI (6 * t + 6))), (5, .int (nI 2)), (0, .ref b), (1, .ref (aw_r ad 0)), (2, .ref (aw_m ad 0)), (3, .ref (aw_o ad))] := hl
          refine lv_goto (tgt := 23) hx hb d_La_law_840 (by decide) ?_
          have hl := lv_sub hl (l' := [(0, .ref b), (1, .ref (aw_r ad 0)), (2, .ref (aw_m ad 0)), (3, .ref (aw_o ad)), (4, .int (nI (6 * t + 6)))]) [2, 3, 4, 5, 0] rfl
          refine W.widen (k := 85 + (t + 1)) (n := 1246 + 6 * (t + 1)) (by omega) (by omega) ?_
          exact ih (t + 1) G (nI 2) _ _ L ls (by omega) hP hD hSh hS (by first | exact hl | simpa [Nat.mul_add] using hl)
        · by_cases hs : (G j).1 = 0
          · refine lv_aload_n hx hb d_La_law_108 rfl (lv_at hl 1 rfl) ?_
            refine lv_aload_n hx hb d_La_law_109 rfl (lv_at hl 0 rfl) ?_
            refine lv_iload hx hb d_La_law_110 (lv_at hl 4 rfl) ?_
            refine lv_iconst (v := nI 1) hx hb d_La_law_112 (by decide +kernel) ?_
            refine lv_iadd hx hb d_La_law_113 ?_
            refine aw_ti (nI_add (6 * t) 1) ?_
            refine va_sld hx hb hX hbl hbA hS (i := (nI ((6 * t) + 1))) (vp_in_nI (by omega) (by omega)) d_La_law_114 ?_
            refine aw_ti (y := nI j) (by rw [nI_clamp (by omega)]; exact hc0.symm) ?_
            refine lv_aload_n hx hb d_La_law_115 rfl (lv_at hl 0 rfl) ?_
            refine lv_iload hx hb d_La_law_116 (lv_at hl 4 rfl) ?_
            refine lv_iconst (v := nI 2) hx hb d_La_law_118 (by decide +kernel) ?_
            refine lv_iadd hx hb d_La_law_119 ?_
            refine aw_ti (nI_add (6 * t) 2) ?_
            refine va_sld hx hb hX hbl hbA hS (i := (nI ((6 * t) + 2))) (vp_in_nI (by omega) (by omega)) d_La_law_120 ?_
            refine aw_ti (y := nI k) (by rw [nI_clamp (by omega)]; exact hk0.symm) ?_
            refine va_calli (vx_runSW (As := [.ref (aw_r ad 0), .int (nI j), .int (nI k)]) (rest := []) ⟨hx, hb, hml, hown, hG⟩ (k_La_choose1 l hst D g ad G G F N0 j k hj (by omega) (by omega)) (aw_wW 3 hG gw_2_37 gw_2_35 gw_0_0 gw_2_36 rfl rfl hd_La_choose ⟨Nat.le_of_ble_eq_true rfl, Nat.le_of_ble_eq_true rfl⟩) (aw_qS hP hD hSh hU hS) rfl rfl hl.1 rfl (lv_room (Nat.le_of_ble_eq_true rfl)) d_La_law_121 ⟨by omega, by omega⟩) hS (fun _ _ h => h) (fun _ h => h) (fun x8 u8 t8 H locs ht _ hpx8 hB _ _ hS => ?_)
            obtain ⟨L, hP, hD, hSh⟩ := hB
            rw [ht] at hP
            clear ht
            subst hpx8
            refine lv_istore hx hb d_La_law_124 hl (by decide) rfl (fun ls hl => ?_)
            have hl : lv_has ls 8 [(5, .int (nI 0)), (0, .ref b), (1, .ref (aw_r ad 0)), (2, .ref (aw_m ad 0)), (3, .ref (aw_o ad)), (4, .int (nI (6 * t)))] := hl
            refine lv_aload_n hx hb d_La_law_126 rfl (lv_at hl 3 rfl) ?_
            refine lv_aload_n hx hb d_La_law_127 rfl (lv_at hl 1 rfl) ?_
            refine lv_iload hx hb d_La_law_128 (lv_at hl 5 rfl) ?_
            refine lv_iconst (v := nI 1) hx hb d_La_law_130 (by decide +kernel) ?_
            refine lv_iadd hx hb d_La_law_131 ?_
            refine aw_ti (nI_add (6 * t) 1) ?_
            refine va_sld hx hb hX hbl hbA hS (i := (nI ((6 * t) + 1))) (vp_in_nI (by omega) (by omega)) d_La_law_132 ?_
            refine aw_ti (y := nI j) (by rw [nI_clamp (by omega)]; exact hc0.symm) ?_
            refine lv_aload_n hx hb d_La_law_133 rfl (lv_at hl 1 rfl) ?_
            refine lv_iload hx hb d_La_law_134 (lv_at hl 5 rfl) ?_
            refine lv_iconst (v := nI 2) hx hb d_La_law_136 (by decide +kernel) ?_
            refine lv_iadd hx hb d_La_law_137 ?_
            refine aw_ti (nI_add (6 * t) 2) ?_
            refine va_sld hx hb hX hbl hbA hS (i := (nI ((6 * t) + 2))) (vp_in_nI (by omega) (by omega)) d_La_law_138 ?_
            refine aw_ti (y := nI k) (by rw [nI_clamp (by omega)]; exact hk0.symm) ?_
            obtain ⟨_, _, _, he9⟩ := rd_M0 hSh
            refine va_callv (va_runV (As := [.int (nI j), .int (nI k)]) (rest := []) ⟨hx, hb, hml, hown, hG⟩ (k_Mo_choose1 l D g ad (aw_g1 G j 1) G F N0 j k hj (by omega) (by omega)) (aw_wV 2 hG gw_10_31 gw_10_28 gw_0_10 gw_10_29 gw_10_30 rfl rfl hd_Mo_choose ⟨Nat.le_of_ble_eq_true rfl, Nat.le_of_ble_eq_true rfl⟩) (aw_qV (va_recv hK hP rfl he9) hP hD hSh hU hS) rfl rfl hl.1 rfl (lv_room (Nat.le_of_ble_eq_true rfl)) d_La_law_139 ⟨by omega, by omega⟩) hS (fun _ _ h => h) (fun _ h => h) (fun u8 t8 H locs ht _ _ hB _ _ hS => ?_)
            obtain ⟨L, hP, hD, hSh⟩ := hB
            rw [ht] at hP
            clear ht
            refine lv_goto (tgt := 837) hx hb d_La_law_142 (by decide) ?_
            refine lv_iinc (k := 5) (v := nI (6 * t + 6)) hx hb d_La_law_837 hl rfl (aw_inc (6 * t) 6 6 (by decide +kernel)) (by decide) rfl (fun ls hl => ?_)
            have hl : lv_has ls 8 [(4, .int (nI (6 * t + 6))), (5, .int (nI 0)), (0, .ref b), (1, .ref (aw_r ad 0)), (2, .ref (aw_m ad 0)), (3, .ref (aw_o ad))] := hl
            refine lv_goto (tgt := 23) hx hb d_La_law_840 (by decide) ?_
            have hl := lv_sub hl (l' := [(0, .ref b), (1, .ref (aw_r ad 0)), (2, .ref (aw_m ad 0)), (3, .ref (aw_o ad)), (4, .int (nI (6 * t + 6)))]) [2, 3, 4, 5, 0] rfl
            refine W.widen (k := 85 + (t + 1)) (n := 1246 + 6 * (t + 1)) (by omega) (by omega) ?_
            exact ih (t + 1) (aw_g1 G j 1) (nI 0) _ _ L ls (by omega) hP hD hSh hS (by first | exact hl | simpa [Nat.mul_add] using hl)
          · refine lv_aload_n hx hb d_La_law_108 rfl (lv_at hl 1 rfl) ?_
            refine lv_aload_n hx hb d_La_law_109 rfl (lv_at hl 0 rfl) ?_
            refine lv_iload hx hb d_La_law_110 (lv_at hl 4 rfl) ?_
            refine lv_iconst (v := nI 1) hx hb d_La_law_112 (by decide +kernel) ?_
            refine lv_iadd hx hb d_La_law_113 ?_
            refine aw_ti (nI_add (6 * t) 1) ?_
            refine va_sld hx hb hX hbl hbA hS (i := (nI ((6 * t) + 1))) (vp_in_nI (by omega) (by omega)) d_La_law_114 ?_
            refine aw_ti (y := nI j) (by rw [nI_clamp (by omega)]; exact hc0.symm) ?_
            refine lv_aload_n hx hb d_La_law_115 rfl (lv_at hl 0 rfl) ?_
            refine lv_iload hx hb d_La_law_116 (lv_at hl 4 rfl) ?_
            refine lv_iconst (v := nI 2) hx hb d_La_law_118 (by decide +kernel) ?_
            refine lv_iadd hx hb d_La_law_119 ?_
            refine aw_ti (nI_add (6 * t) 2) ?_
            refine va_sld hx hb hX hbl hbA hS (i := (nI ((6 * t) + 2))) (vp_in_nI (by omega) (by omega)) d_La_law_120 ?_
            refine aw_ti (y := nI k) (by rw [nI_clamp (by omega)]; exact hk0.symm) ?_
            refine va_calli (vx_runSW (As := [.ref (aw_r ad 0), .int (nI j), .int (nI k)]) (rest := []) ⟨hx, hb, hml, hown, hG⟩ (k_La_chooseXs l hst D g ad G G F N0 j k hj (by omega) (by omega)) (aw_wW 3 hG gw_2_37 gw_2_35 gw_0_0 gw_2_36 rfl rfl hd_La_choose ⟨Nat.le_of_ble_eq_true rfl, Nat.le_of_ble_eq_true rfl⟩) (aw_qS hP hD hSh hU hS) rfl rfl hl.1 rfl (lv_room (Nat.le_of_ble_eq_true rfl)) d_La_law_121 ⟨by omega, by omega⟩) hS (fun _ _ h => h) (fun _ h => h) (fun x10 u8 t8 H locs ht _ hpx10 hB _ _ hS => ?_)
            obtain ⟨L, hP, hD, hSh⟩ := hB
            rw [ht] at hP
            clear ht
            subst hpx10
            refine lv_istore hx hb d_La_law_124 hl (by decide) rfl (fun ls hl => ?_)
            have hl : lv_has ls 8 [(5, .int (nI 3)), (0, .ref b), (1, .ref (aw_r ad 0)), (2, .ref (aw_m ad 0)), (3, .ref (aw_o ad)), (4, .int (nI (6 * t)))] := hl
            refine lv_aload_n hx hb d_La_law_126 rfl (lv_at hl 3 rfl) ?_
            refine lv_aload_n hx hb d_La_law_127 rfl (lv_at hl 1 rfl) ?_
            refine lv_iload hx hb d_La_law_128 (lv_at hl 5 rfl) ?_
            refine lv_iconst (v := nI 1) hx hb d_La_law_130 (by decide +kernel) ?_
            refine lv_iadd hx hb d_La_law_131 ?_
            refine aw_ti (nI_add (6 * t) 1) ?_
            refine va_sld hx hb hX hbl hbA hS (i := (nI ((6 * t) + 1))) (vp_in_nI (by omega) (by omega)) d_La_law_132 ?_
            refine aw_ti (y := nI j) (by rw [nI_clamp (by omega)]; exact hc0.symm) ?_
            refine lv_aload_n hx hb d_La_law_133 rfl (lv_at hl 1 rfl) ?_
            refine lv_iload hx hb d_La_law_134 (lv_at hl 5 rfl) ?_
            refine lv_iconst (v := nI 2) hx hb d_La_law_136 (by decide +kernel) ?_
            refine lv_iadd hx hb d_La_law_137 ?_
            refine aw_ti (nI_add (6 * t) 2) ?_
            refine va_sld hx hb hX hbl hbA hS (i := (nI ((6 * t) + 2))) (vp_in_nI (by omega) (by omega)) d_La_law_138 ?_
            refine aw_ti (y := nI k) (by rw [nI_clamp (by omega)]; exact hk0.symm) ?_
            obtain ⟨_, _, _, he11⟩ := rd_M0 hSh
            refine va_callv (va_runV (As := [.int (nI j), .int (nI k)]) (rest := []) ⟨hx, hb, hml, hown, hG⟩ (k_Mo_chooseXs l D g ad G G F N0 j k hj (by omega) (by omega)) (aw_wV 2 hG gw_10_31 gw_10_28 gw_0_10 gw_10_29 gw_10_30 rfl rfl hd_Mo_choose ⟨Nat.le_of_ble_eq_true rfl, Nat.le_of_ble_eq_true rfl⟩) (aw_qV (va_recv hK hP rfl he11) hP hD hSh hU hS) rfl rfl hl.1 rfl (lv_room (Nat.le_of_ble_eq_true rfl)) d_La_law_139 ⟨by omega, by omega⟩) hS (fun _ _ h => h) (fun _ h => h) (fun u8 t8 H locs ht _ _ hB _ _ hS => ?_)
            obtain ⟨L, hP, hD, hSh⟩ := hB
            rw [ht] at hP
            clear ht
            refine lv_goto (tgt := 837) hx hb d_La_law_142 (by decide) ?_
            refine lv_iinc (k := 5) (v := nI (6 * t + 6)) hx hb d_La_law_837 hl rfl (aw_inc (6 * t) 6 6 (by decide +kernel)) (by decide) rfl (fun ls hl => ?_)
            have hl : lv_has ls 8 [(4, .int (nI (6 * t + 6))), (5, .int (nI 3)), (0, .ref b), (1, .ref (aw_r ad 0)), (2, .ref (aw_m ad 0)), (3, .ref (aw_o ad))] := hl
            refine lv_goto (tgt := 23) hx hb d_La_law_840 (by decide) ?_
            have hl := lv_sub hl (l' := [(0, .ref b), (1, .ref (aw_r ad 0)), (2, .ref (aw_m ad 0)), (3, .ref (aw_o ad)), (4, .int (nI (6 * t + 6)))]) [2, 3, 4, 5, 0] rfl
            refine W.widen (k := 85 + (t + 1)) (n := 1246 + 6 * (t + 1)) (by omega) (by omega) ?_
            exact ih (t + 1) G (nI 3) _ _ L ls (by omega) hP hD hSh hS (by first | exact hl | simpa [Nat.mul_add] using hl)
    · refine aw_ti (y := nI 1) (by rw [hs3]) ?_
      refine lv_tableIn (tgt := 145) (off := 105) hx hb d_La_law_40 (by decide +kernel) (by decide +kernel) (by decide +kernel) (by decide) ?_
      obtain ⟨c0, hc0⟩ : ∃ z : Int32, z = xs (6 * t + 1) := ⟨_, rfl⟩
      rcases aw_rng 4 (by decide) c0 with hc | ⟨j, hj, rfl⟩
      · refine lv_aload_n hx hb d_La_law_145 rfl (lv_at hl 1 rfl) ?_
        refine lv_aload_n hx hb d_La_law_146 rfl (lv_at hl 0 rfl) ?_
        refine lv_iload hx hb d_La_law_147 (lv_at hl 4 rfl) ?_
        refine lv_iconst (v := nI 1) hx hb d_La_law_149 (by decide +kernel) ?_
        refine lv_iadd hx hb d_La_law_150 ?_
        refine aw_ti (nI_add (6 * t) 1) ?_
        refine va_sld hx hb hX hbl hbA hS (i := (nI ((6 * t) + 1))) (vp_in_nI (by omega) (by omega)) d_La_law_151 ?_
        refine aw_ti (y := c0) (by rw [nI_clamp (by omega)]; exact hc0.symm) ?_
        refine lv_aload_n hx hb d_La_law_152 rfl (lv_at hl 0 rfl) ?_
        refine lv_iload hx hb d_La_law_153 (lv_at hl 4 rfl) ?_
        refine lv_iconst (v := nI 2) hx hb d_La_law_155 (by decide +kernel) ?_
        refine lv_iadd hx hb d_La_law_156 ?_
        refine aw_ti (nI_add (6 * t) 2) ?_
        refine va_sld hx hb hX hbl hbA hS (i := (nI ((6 * t) + 2))) (vp_in_nI (by omega) (by omega)) d_La_law_157 ?_
        refine lv_topi (fun x12 _ => ?_)
        refine lv_i2l hx hb d_La_law_158 rfl ?_
        refine lv_topl (fun y13 _ => ?_)
        refine lv_bipush (v := nI 32) hx hb d_La_law_159 (by decide +kernel) ?_
        refine lv_lshl hx hb d_La_law_161 rfl ?_
        refine lv_topl (fun y14 _ => ?_)
        refine lv_aload_n hx hb d_La_law_162 rfl (lv_at hl 0 rfl) ?_
        refine lv_iload hx hb d_La_law_163 (lv_at hl 4 rfl) ?_
        refine lv_iconst (v := nI 3) hx hb d_La_law_165 (by decide +kernel) ?_
        refine lv_iadd hx hb d_La_law_166 ?_
        refine aw_ti (nI_add (6 * t) 3) ?_
        refine va_sld hx hb hX hbl hbA hS (i := (nI ((6 * t) + 3))) (vp_in_nI (by omega) (by omega)) d_La_law_167 ?_
        refine lv_topi (fun x15 _ => ?_)
        refine lv_i2l hx hb d_La_law_168 rfl ?_
        refine lv_topl (fun y16 _ => ?_)
        refine lv_ldc2 (v := 4294967295) hx hb hown (hG _ gw_13_3) d_La_law_169 ?_
        refine lv_land hx hb d_La_law_172 ?_
        refine lv_topl (fun y17 _ => ?_)
        refine lv_lor hx hb d_La_law_173 ?_
        refine lv_topl (fun y18 _ => ?_)
        refine lv_aload_n hx hb d_La_law_174 rfl (lv_at hl 0 rfl) ?_
        refine lv_iload hx hb d_La_law_175 (lv_at hl 4 rfl) ?_
        refine lv_iconst (v := nI 4) hx hb d_La_law_177 (by decide +kernel) ?_
        refine lv_iadd hx hb d_La_law_178 ?_
        refine aw_ti (nI_add (6 * t) 4) ?_
        refine va_sld hx hb hX hbl hbA hS (i := (nI ((6 * t) + 4))) (vp_in_nI (by omega) (by omega)) d_La_law_179 ?_
        refine lv_topi (fun x19 _ => ?_)
        refine lv_i2l hx hb d_La_law_180 rfl ?_
        refine lv_topl (fun y20 _ => ?_)
        refine lv_bipush (v := nI 32) hx hb d_La_law_181 (by decide +kernel) ?_
        refine lv_lshl hx hb d_La_law_183 rfl ?_
        refine lv_topl (fun y21 _ => ?_)
        refine lv_aload_n hx hb d_La_law_184 rfl (lv_at hl 0 rfl) ?_
        refine lv_iload hx hb d_La_law_185 (lv_at hl 4 rfl) ?_
        refine lv_iconst (v := nI 5) hx hb d_La_law_187 (by decide +kernel) ?_
        refine lv_iadd hx hb d_La_law_188 ?_
        refine aw_ti (nI_add (6 * t) 5) ?_
        refine va_sld hx hb hX hbl hbA hS (i := (nI ((6 * t) + 5))) (vp_in_nI (by omega) (by omega)) d_La_law_189 ?_
        refine lv_topi (fun x22 _ => ?_)
        refine lv_i2l hx hb d_La_law_190 rfl ?_
        refine lv_topl (fun y23 _ => ?_)
        refine lv_ldc2 (v := 4294967295) hx hb hown (hG _ gw_13_3) d_La_law_191 ?_
        refine lv_land hx hb d_La_law_194 ?_
        refine lv_topl (fun y24 _ => ?_)
        refine lv_lor hx hb d_La_law_195 ?_
        refine lv_topl (fun y25 _ => ?_)
        refine va_calli (vx_runSW (As := [.ref (aw_r ad 0), .int c0, .long y18, .long y25]) (rest := []) ⟨hx, hb, hml, hown, hG⟩ (k_La_keyXc l hst D g ad G G F N0 c0 y18 y25 hc) (aw_wW 4 hG gw_4_19 gw_4_17 gw_0_0 gw_4_18 rfl rfl hd_La_key ⟨Nat.le_of_ble_eq_true rfl, Nat.le_of_ble_eq_true rfl⟩) (aw_qS hP hD hSh hU hS) rfl rfl hl.1 rfl (lv_room (Nat.le_of_ble_eq_true rfl)) d_La_law_196 ⟨by omega, by omega⟩) hS (fun _ _ h => h) (fun _ h => h) (fun x26 u8 t8 H locs ht _ hpx26 hB _ _ hS => ?_)
        obtain ⟨L, hP, hD, hSh⟩ := hB
        rw [ht] at hP
        clear ht
        subst hpx26
        refine lv_istore hx hb d_La_law_199 hl (by decide) rfl (fun ls hl => ?_)
        have hl : lv_has ls 8 [(5, .int (nI 1)), (0, .ref b), (1, .ref (aw_r ad 0)), (2, .ref (aw_m ad 0)), (3, .ref (aw_o ad)), (4, .int (nI (6 * t)))] := hl
        refine lv_aload_n hx hb d_La_law_201 rfl (lv_at hl 3 rfl) ?_
        refine lv_aload_n hx hb d_La_law_202 rfl (lv_at hl 1 rfl) ?_
        refine lv_iload hx hb d_La_law_203 (lv_at hl 5 rfl) ?_
        refine lv_iconst (v := nI 1) hx hb d_La_law_205 (by decide +kernel) ?_
        refine lv_iadd hx hb d_La_law_206 ?_
        refine aw_ti (nI_add (6 * t) 1) ?_
        refine va_sld hx hb hX hbl hbA hS (i := (nI ((6 * t) + 1))) (vp_in_nI (by omega) (by omega)) d_La_law_207 ?_
        refine aw_ti (y := c0) (by rw [nI_clamp (by omega)]; exact hc0.symm) ?_
        refine lv_aload_n hx hb d_La_law_208 rfl (lv_at hl 1 rfl) ?_
        refine lv_iload hx hb d_La_law_209 (lv_at hl 5 rfl) ?_
        refine lv_iconst (v := nI 2) hx hb d_La_law_211 (by decide +kernel) ?_
        refine lv_iadd hx hb d_La_law_212 ?_
        refine aw_ti (nI_add (6 * t) 2) ?_
        refine va_sld hx hb hX hbl hbA hS (i := (nI ((6 * t) + 2))) (vp_in_nI (by omega) (by omega)) d_La_law_213 ?_
        refine lv_topi (fun x27 _ => ?_)
        refine lv_i2l hx hb d_La_law_214 rfl ?_
        refine lv_topl (fun y28 _ => ?_)
        refine lv_bipush (v := nI 32) hx hb d_La_law_215 (by decide +kernel) ?_
        refine lv_lshl hx hb d_La_law_217 rfl ?_
        refine lv_topl (fun y29 _ => ?_)
        refine lv_aload_n hx hb d_La_law_218 rfl (lv_at hl 1 rfl) ?_
        refine lv_iload hx hb d_La_law_219 (lv_at hl 5 rfl) ?_
        refine lv_iconst (v := nI 3) hx hb d_La_law_221 (by decide +kernel) ?_
        refine lv_iadd hx hb d_La_law_222 ?_
        refine aw_ti (nI_add (6 * t) 3) ?_
        refine va_sld hx hb hX hbl hbA hS (i := (nI ((6 * t) + 3))) (vp_in_nI (by omega) (by omega)) d_La_law_223 ?_
        refine lv_topi (fun x30 _ => ?_)
        refine lv_i2l hx hb d_La_law_224 rfl ?_
        refine lv_topl (fun y31 _ => ?_)
        refine lv_ldc2 (v := 4294967295) hx hb hown (hG _ gw_13_3) d_La_law_225 ?_
        refine lv_land hx hb d_La_law_228 ?_
        refine lv_topl (fun y32 _ => ?_)
        refine lv_lor hx hb d_La_law_229 ?_
        refine lv_topl (fun y33 _ => ?_)
        refine lv_aload_n hx hb d_La_law_230 rfl (lv_at hl 1 rfl) ?_
        refine lv_iload hx hb d_La_law_231 (lv_at hl 5 rfl) ?_
        refine lv_iconst (v := nI 4) hx hb d_La_law_233 (by decide +kernel) ?_
        refine lv_iadd hx hb d_La_law_234 ?_
        refine aw_ti (nI_add (6 * t) 4) ?_
        refine va_sld hx hb hX hbl hbA hS (i := (nI ((6 * t) + 4))) (vp_in_nI (by omega) (by omega)) d_La_law_235 ?_
        refine lv_topi (fun x34 _ => ?_)
        refine lv_i2l hx hb d_La_law_236 rfl ?_
        refine lv_topl (fun y35 _ => ?_)
        refine lv_bipush (v := nI 32) hx hb d_La_law_237 (by decide +kernel) ?_
        refine lv_lshl hx hb d_La_law_239 rfl ?_
        refine lv_topl (fun y36 _ => ?_)
        refine lv_aload_n hx hb d_La_law_240 rfl (lv_at hl 1 rfl) ?_
        refine lv_iload hx hb d_La_law_241 (lv_at hl 5 rfl) ?_
        refine lv_iconst (v := nI 5) hx hb d_La_law_243 (by decide +kernel) ?_
        refine lv_iadd hx hb d_La_law_244 ?_
        refine aw_ti (nI_add (6 * t) 5) ?_
        refine va_sld hx hb hX hbl hbA hS (i := (nI ((6 * t) + 5))) (vp_in_nI (by omega) (by omega)) d_La_law_245 ?_
        refine lv_topi (fun x37 _ => ?_)
        refine lv_i2l hx hb d_La_law_246 rfl ?_
        refine lv_topl (fun y38 _ => ?_)
        refine lv_ldc2 (v := 4294967295) hx hb hown (hG _ gw_13_3) d_La_law_247 ?_
        refine lv_land hx hb d_La_law_250 ?_
        refine lv_topl (fun y39 _ => ?_)
        refine lv_lor hx hb d_La_law_251 ?_
        refine lv_topl (fun y40 _ => ?_)
        obtain ⟨_, _, _, he41⟩ := rd_M0 hSh
        refine va_callv (va_runV (As := [.int c0, .long y33, .long y40]) (rest := []) ⟨hx, hb, hml, hown, hG⟩ (k_Mo_keyXc l D g ad G G F N0 c0 y33 y40 hc) (aw_wV 3 hG gw_10_41 gw_10_38 gw_0_10 gw_10_39 gw_10_40 rfl rfl hd_Mo_key ⟨Nat.le_of_ble_eq_true rfl, Nat.le_of_ble_eq_true rfl⟩) (aw_qV (va_recv hK hP rfl he41) hP hD hSh hU hS) rfl rfl hl.1 rfl (lv_room (Nat.le_of_ble_eq_true rfl)) d_La_law_252 ⟨by omega, by omega⟩) hS (fun _ _ h => h) (fun _ h => h) (fun u8 t8 H locs ht _ _ hB _ _ hS => ?_)
        obtain ⟨L, hP, hD, hSh⟩ := hB
        rw [ht] at hP
        clear ht
        refine lv_goto (tgt := 837) hx hb d_La_law_255 (by decide) ?_
        refine lv_iinc (k := 5) (v := nI (6 * t + 6)) hx hb d_La_law_837 hl rfl (aw_inc (6 * t) 6 6 (by decide +kernel)) (by decide) rfl (fun ls hl => ?_)
        have hl : lv_has ls 8 [(4, .int (nI (6 * t + 6))), (5, .int (nI 1)), (0, .ref b), (1, .ref (aw_r ad 0)), (2, .ref (aw_m ad 0)), (3, .ref (aw_o ad))] := hl
        refine lv_goto (tgt := 23) hx hb d_La_law_840 (by decide) ?_
        have hl := lv_sub hl (l' := [(0, .ref b), (1, .ref (aw_r ad 0)), (2, .ref (aw_m ad 0)), (3, .ref (aw_o ad)), (4, .int (nI (6 * t + 6)))]) [2, 3, 4, 5, 0] rfl
        refine W.widen (k := 85 + (t + 1)) (n := 1246 + 6 * (t + 1)) (by omega) (by omega) ?_
        exact ih (t + 1) G (nI 1) _ _ L ls (by omega) hP hD hSh hS (by first | exact hl | simpa [Nat.mul_add] using hl)
      · have hgj := hSh.2.2.2.2.1 j hj
        by_cases hs : (G j).1 = 0
        · refine lv_aload_n hx hb d_La_law_145 rfl (lv_at hl 1 rfl) ?_
          refine lv_aload_n hx hb d_La_law_146 rfl (lv_at hl 0 rfl) ?_
          refine lv_iload hx hb d_La_law_147 (lv_at hl 4 rfl) ?_
          refine lv_iconst (v := nI 1) hx hb d_La_law_149 (by decide +kernel) ?_
          refine lv_iadd hx hb d_La_law_150 ?_
          refine aw_ti (nI_add (6 * t) 1) ?_
          refine va_sld hx hb hX hbl hbA hS (i := (nI ((6 * t) + 1))) (vp_in_nI (by omega) (by omega)) d_La_law_151 ?_
          refine aw_ti (y := nI j) (by rw [nI_clamp (by omega)]; exact hc0.symm) ?_
          refine lv_aload_n hx hb d_La_law_152 rfl (lv_at hl 0 rfl) ?_
          refine lv_iload hx hb d_La_law_153 (lv_at hl 4 rfl) ?_
          refine lv_iconst (v := nI 2) hx hb d_La_law_155 (by decide +kernel) ?_
          refine lv_iadd hx hb d_La_law_156 ?_
          refine aw_ti (nI_add (6 * t) 2) ?_
          refine va_sld hx hb hX hbl hbA hS (i := (nI ((6 * t) + 2))) (vp_in_nI (by omega) (by omega)) d_La_law_157 ?_
          refine lv_topi (fun x42 _ => ?_)
          refine lv_i2l hx hb d_La_law_158 rfl ?_
          refine lv_topl (fun y43 _ => ?_)
          refine lv_bipush (v := nI 32) hx hb d_La_law_159 (by decide +kernel) ?_
          refine lv_lshl hx hb d_La_law_161 rfl ?_
          refine lv_topl (fun y44 _ => ?_)
          refine lv_aload_n hx hb d_La_law_162 rfl (lv_at hl 0 rfl) ?_
          refine lv_iload hx hb d_La_law_163 (lv_at hl 4 rfl) ?_
          refine lv_iconst (v := nI 3) hx hb d_La_law_165 (by decide +kernel) ?_
          refine lv_iadd hx hb d_La_law_166 ?_
          refine aw_ti (nI_add (6 * t) 3) ?_
          refine va_sld hx hb hX hbl hbA hS (i := (nI ((6 * t) + 3))) (vp_in_nI (by omega) (by omega)) d_La_law_167 ?_
          refine lv_topi (fun x45 _ => ?_)
          refine lv_i2l hx hb d_La_law_168 rfl ?_
          refine lv_topl (fun y46 _ => ?_)
          refine lv_ldc2 (v := 4294967295) hx hb hown (hG _ gw_13_3) d_La_law_169 ?_
          refine lv_land hx hb d_La_law_172 ?_
          refine lv_topl (fun y47 _ => ?_)
          refine lv_lor hx hb d_La_law_173 ?_
          refine lv_topl (fun y48 _ => ?_)
          refine lv_aload_n hx hb d_La_law_174 rfl (lv_at hl 0 rfl) ?_
          refine lv_iload hx hb d_La_law_175 (lv_at hl 4 rfl) ?_
          refine lv_iconst (v := nI 4) hx hb d_La_law_177 (by decide +kernel) ?_
          refine lv_iadd hx hb d_La_law_178 ?_
          refine aw_ti (nI_add (6 * t) 4) ?_
          refine va_sld hx hb hX hbl hbA hS (i := (nI ((6 * t) + 4))) (vp_in_nI (by omega) (by omega)) d_La_law_179 ?_
          refine lv_topi (fun x49 _ => ?_)
          refine lv_i2l hx hb d_La_law_180 rfl ?_
          refine lv_topl (fun y50 _ => ?_)
          refine lv_bipush (v := nI 32) hx hb d_La_law_181 (by decide +kernel) ?_
          refine lv_lshl hx hb d_La_law_183 rfl ?_
          refine lv_topl (fun y51 _ => ?_)
          refine lv_aload_n hx hb d_La_law_184 rfl (lv_at hl 0 rfl) ?_
          refine lv_iload hx hb d_La_law_185 (lv_at hl 4 rfl) ?_
          refine lv_iconst (v := nI 5) hx hb d_La_law_187 (by decide +kernel) ?_
          refine lv_iadd hx hb d_La_law_188 ?_
          refine aw_ti (nI_add (6 * t) 5) ?_
          refine va_sld hx hb hX hbl hbA hS (i := (nI ((6 * t) + 5))) (vp_in_nI (by omega) (by omega)) d_La_law_189 ?_
          refine lv_topi (fun x52 _ => ?_)
          refine lv_i2l hx hb d_La_law_190 rfl ?_
          refine lv_topl (fun y53 _ => ?_)
          refine lv_ldc2 (v := 4294967295) hx hb hown (hG _ gw_13_3) d_La_law_191 ?_
          refine lv_land hx hb d_La_law_194 ?_
          refine lv_topl (fun y54 _ => ?_)
          refine lv_lor hx hb d_La_law_195 ?_
          refine lv_topl (fun y55 _ => ?_)
          refine va_calli (vx_runSW (As := [.ref (aw_r ad 0), .int (nI j), .long y48, .long y55]) (rest := []) ⟨hx, hb, hml, hown, hG⟩ (k_La_keyXs l hst D g ad G G F N0 j y48 y55 hj (by omega)) (aw_wW 4 hG gw_4_19 gw_4_17 gw_0_0 gw_4_18 rfl rfl hd_La_key ⟨Nat.le_of_ble_eq_true rfl, Nat.le_of_ble_eq_true rfl⟩) (aw_qS hP hD hSh hU hS) rfl rfl hl.1 rfl (lv_room (Nat.le_of_ble_eq_true rfl)) d_La_law_196 ⟨by omega, by omega⟩) hS (fun _ _ h => h) (fun _ h => h) (fun x56 u8 t8 H locs ht _ hpx56 hB _ _ hS => ?_)
          obtain ⟨L, hP, hD, hSh⟩ := hB
          rw [ht] at hP
          clear ht
          subst hpx56
          refine lv_istore hx hb d_La_law_199 hl (by decide) rfl (fun ls hl => ?_)
          have hl : lv_has ls 8 [(5, .int (nI 2)), (0, .ref b), (1, .ref (aw_r ad 0)), (2, .ref (aw_m ad 0)), (3, .ref (aw_o ad)), (4, .int (nI (6 * t)))] := hl
          refine lv_aload_n hx hb d_La_law_201 rfl (lv_at hl 3 rfl) ?_
          refine lv_aload_n hx hb d_La_law_202 rfl (lv_at hl 1 rfl) ?_
          refine lv_iload hx hb d_La_law_203 (lv_at hl 5 rfl) ?_
          refine lv_iconst (v := nI 1) hx hb d_La_law_205 (by decide +kernel) ?_
          refine lv_iadd hx hb d_La_law_206 ?_
          refine aw_ti (nI_add (6 * t) 1) ?_
          refine va_sld hx hb hX hbl hbA hS (i := (nI ((6 * t) + 1))) (vp_in_nI (by omega) (by omega)) d_La_law_207 ?_
          refine aw_ti (y := nI j) (by rw [nI_clamp (by omega)]; exact hc0.symm) ?_
          refine lv_aload_n hx hb d_La_law_208 rfl (lv_at hl 1 rfl) ?_
          refine lv_iload hx hb d_La_law_209 (lv_at hl 5 rfl) ?_
          refine lv_iconst (v := nI 2) hx hb d_La_law_211 (by decide +kernel) ?_
          refine lv_iadd hx hb d_La_law_212 ?_
          refine aw_ti (nI_add (6 * t) 2) ?_
          refine va_sld hx hb hX hbl hbA hS (i := (nI ((6 * t) + 2))) (vp_in_nI (by omega) (by omega)) d_La_law_213 ?_
          refine lv_topi (fun x57 _ => ?_)
          refine lv_i2l hx hb d_La_law_214 rfl ?_
          refine lv_topl (fun y58 _ => ?_)
          refine lv_bipush (v := nI 32) hx hb d_La_law_215 (by decide +kernel) ?_
          refine lv_lshl hx hb d_La_law_217 rfl ?_
          refine lv_topl (fun y59 _ => ?_)
          refine lv_aload_n hx hb d_La_law_218 rfl (lv_at hl 1 rfl) ?_
          refine lv_iload hx hb d_La_law_219 (lv_at hl 5 rfl) ?_
          refine lv_iconst (v := nI 3) hx hb d_La_law_221 (by decide +kernel) ?_
          refine lv_iadd hx hb d_La_law_222 ?_
          refine aw_ti (nI_add (6 * t) 3) ?_
          refine va_sld hx hb hX hbl hbA hS (i := (nI ((6 * t) + 3))) (vp_in_nI (by omega) (by omega)) d_La_law_223 ?_
          refine lv_topi (fun x60 _ => ?_)
          refine lv_i2l hx hb d_La_law_224 rfl ?_
          refine lv_topl (fun y61 _ => ?_)
          refine lv_ldc2 (v := 4294967295) hx hb hown (hG _ gw_13_3) d_La_law_225 ?_
          refine lv_land hx hb d_La_law_228 ?_
          refine lv_topl (fun y62 _ => ?_)
          refine lv_lor hx hb d_La_law_229 ?_
          refine lv_topl (fun y63 _ => ?_)
          refine lv_aload_n hx hb d_La_law_230 rfl (lv_at hl 1 rfl) ?_
          refine lv_iload hx hb d_La_law_231 (lv_at hl 5 rfl) ?_
          refine lv_iconst (v := nI 4) hx hb d_La_law_233 (by decide +kernel) ?_
          refine lv_iadd hx hb d_La_law_234 ?_
          refine aw_ti (nI_add (6 * t) 4) ?_
          refine va_sld hx hb hX hbl hbA hS (i := (nI ((6 * t) + 4))) (vp_in_nI (by omega) (by omega)) d_La_law_235 ?_
          refine lv_topi (fun x64 _ => ?_)
          refine lv_i2l hx hb d_La_law_236 rfl ?_
          refine lv_topl (fun y65 _ => ?_)
          refine lv_bipush (v := nI 32) hx hb d_La_law_237 (by decide +kernel) ?_
          refine lv_lshl hx hb d_La_law_239 rfl ?_
          refine lv_topl (fun y66 _ => ?_)
          refine lv_aload_n hx hb d_La_law_240 rfl (lv_at hl 1 rfl) ?_
          refine lv_iload hx hb d_La_law_241 (lv_at hl 5 rfl) ?_
          refine lv_iconst (v := nI 5) hx hb d_La_law_243 (by decide +kernel) ?_
          refine lv_iadd hx hb d_La_law_244 ?_
          refine aw_ti (nI_add (6 * t) 5) ?_
          refine va_sld hx hb hX hbl hbA hS (i := (nI ((6 * t) + 5))) (vp_in_nI (by omega) (by omega)) d_La_law_245 ?_
          refine lv_topi (fun x67 _ => ?_)
          refine lv_i2l hx hb d_La_law_246 rfl ?_
          refine lv_topl (fun y68 _ => ?_)
          refine lv_ldc2 (v := 4294967295) hx hb hown (hG _ gw_13_3) d_La_law_247 ?_
          refine lv_land hx hb d_La_law_250 ?_
          refine lv_topl (fun y69 _ => ?_)
          refine lv_lor hx hb d_La_law_251 ?_
          refine lv_topl (fun y70 _ => ?_)
          obtain ⟨_, _, _, he71⟩ := rd_M0 hSh
          refine va_callv (va_runV (As := [.int (nI j), .long y63, .long y70]) (rest := []) ⟨hx, hb, hml, hown, hG⟩ (k_Mo_keyXs l D g ad G G F N0 j y63 y70 hj (by omega)) (aw_wV 3 hG gw_10_41 gw_10_38 gw_0_10 gw_10_39 gw_10_40 rfl rfl hd_Mo_key ⟨Nat.le_of_ble_eq_true rfl, Nat.le_of_ble_eq_true rfl⟩) (aw_qV (va_recv hK hP rfl he71) hP hD hSh hU hS) rfl rfl hl.1 rfl (lv_room (Nat.le_of_ble_eq_true rfl)) d_La_law_252 ⟨by omega, by omega⟩) hS (fun _ _ h => h) (fun _ h => h) (fun u8 t8 H locs ht _ _ hB _ _ hS => ?_)
          obtain ⟨L, hP, hD, hSh⟩ := hB
          rw [ht] at hP
          clear ht
          refine lv_goto (tgt := 837) hx hb d_La_law_255 (by decide) ?_
          refine lv_iinc (k := 5) (v := nI (6 * t + 6)) hx hb d_La_law_837 hl rfl (aw_inc (6 * t) 6 6 (by decide +kernel)) (by decide) rfl (fun ls hl => ?_)
          have hl : lv_has ls 8 [(4, .int (nI (6 * t + 6))), (5, .int (nI 2)), (0, .ref b), (1, .ref (aw_r ad 0)), (2, .ref (aw_m ad 0)), (3, .ref (aw_o ad))] := hl
          refine lv_goto (tgt := 23) hx hb d_La_law_840 (by decide) ?_
          have hl := lv_sub hl (l' := [(0, .ref b), (1, .ref (aw_r ad 0)), (2, .ref (aw_m ad 0)), (3, .ref (aw_o ad)), (4, .int (nI (6 * t + 6)))]) [2, 3, 4, 5, 0] rfl
          refine W.widen (k := 85 + (t + 1)) (n := 1246 + 6 * (t + 1)) (by omega) (by omega) ?_
          exact ih (t + 1) G (nI 2) _ _ L ls (by omega) hP hD hSh hS (by first | exact hl | simpa [Nat.mul_add] using hl)
        · refine lv_aload_n hx hb d_La_law_145 rfl (lv_at hl 1 rfl) ?_
          refine lv_aload_n hx hb d_La_law_146 rfl (lv_at hl 0 rfl) ?_
          refine lv_iload hx hb d_La_law_147 (lv_at hl 4 rfl) ?_
          refine lv_iconst (v := nI 1) hx hb d_La_law_149 (by decide +kernel) ?_
          refine lv_iadd hx hb d_La_law_150 ?_
          refine aw_ti (nI_add (6 * t) 1) ?_
          refine va_sld hx hb hX hbl hbA hS (i := (nI ((6 * t) + 1))) (vp_in_nI (by omega) (by omega)) d_La_law_151 ?_
          refine aw_ti (y := nI j) (by rw [nI_clamp (by omega)]; exact hc0.symm) ?_
          refine lv_aload_n hx hb d_La_law_152 rfl (lv_at hl 0 rfl) ?_
          refine lv_iload hx hb d_La_law_153 (lv_at hl 4 rfl) ?_
          refine lv_iconst (v := nI 2) hx hb d_La_law_155 (by decide +kernel) ?_
          refine lv_iadd hx hb d_La_law_156 ?_
          refine aw_ti (nI_add (6 * t) 2) ?_
          refine va_sld hx hb hX hbl hbA hS (i := (nI ((6 * t) + 2))) (vp_in_nI (by omega) (by omega)) d_La_law_157 ?_
          refine lv_topi (fun x72 _ => ?_)
          refine lv_i2l hx hb d_La_law_158 rfl ?_
          refine lv_topl (fun y73 _ => ?_)
          refine lv_bipush (v := nI 32) hx hb d_La_law_159 (by decide +kernel) ?_
          refine lv_lshl hx hb d_La_law_161 rfl ?_
          refine lv_topl (fun y74 _ => ?_)
          refine lv_aload_n hx hb d_La_law_162 rfl (lv_at hl 0 rfl) ?_
          refine lv_iload hx hb d_La_law_163 (lv_at hl 4 rfl) ?_
          refine lv_iconst (v := nI 3) hx hb d_La_law_165 (by decide +kernel) ?_
          refine lv_iadd hx hb d_La_law_166 ?_
          refine aw_ti (nI_add (6 * t) 3) ?_
          refine va_sld hx hb hX hbl hbA hS (i := (nI ((6 * t) + 3))) (vp_in_nI (by omega) (by omega)) d_La_law_167 ?_
          refine lv_topi (fun x75 _ => ?_)
          refine lv_i2l hx hb d_La_law_168 rfl ?_
          refine lv_topl (fun y76 _ => ?_)
          refine lv_ldc2 (v := 4294967295) hx hb hown (hG _ gw_13_3) d_La_law_169 ?_
          refine lv_land hx hb d_La_law_172 ?_
          refine lv_topl (fun y77 _ => ?_)
          refine lv_lor hx hb d_La_law_173 ?_
          refine lv_topl (fun y78 _ => ?_)
          refine lv_aload_n hx hb d_La_law_174 rfl (lv_at hl 0 rfl) ?_
          refine lv_iload hx hb d_La_law_175 (lv_at hl 4 rfl) ?_
          refine lv_iconst (v := nI 4) hx hb d_La_law_177 (by decide +kernel) ?_
          refine lv_iadd hx hb d_La_law_178 ?_
          refine aw_ti (nI_add (6 * t) 4) ?_
          refine va_sld hx hb hX hbl hbA hS (i := (nI ((6 * t) + 4))) (vp_in_nI (by omega) (by omega)) d_La_law_179 ?_
          refine lv_topi (fun x79 _ => ?_)
          refine lv_i2l hx hb d_La_law_180 rfl ?_
          refine lv_topl (fun y80 _ => ?_)
          refine lv_bipush (v := nI 32) hx hb d_La_law_181 (by decide +kernel) ?_
          refine lv_lshl hx hb d_La_law_183 rfl ?_
          refine lv_topl (fun y81 _ => ?_)
          refine lv_aload_n hx hb d_La_law_184 rfl (lv_at hl 0 rfl) ?_
          refine lv_iload hx hb d_La_law_185 (lv_at hl 4 rfl) ?_
          refine lv_iconst (v := nI 5) hx hb d_La_law_187 (by decide +kernel) ?_
          refine lv_iadd hx hb d_La_law_188 ?_
          refine aw_ti (nI_add (6 * t) 5) ?_
          refine va_sld hx hb hX hbl hbA hS (i := (nI ((6 * t) + 5))) (vp_in_nI (by omega) (by omega)) d_La_law_189 ?_
          refine lv_topi (fun x82 _ => ?_)
          refine lv_i2l hx hb d_La_law_190 rfl ?_
          refine lv_topl (fun y83 _ => ?_)
          refine lv_ldc2 (v := 4294967295) hx hb hown (hG _ gw_13_3) d_La_law_191 ?_
          refine lv_land hx hb d_La_law_194 ?_
          refine lv_topl (fun y84 _ => ?_)
          refine lv_lor hx hb d_La_law_195 ?_
          refine lv_topl (fun y85 _ => ?_)
          refine va_calli (vx_runSW (As := [.ref (aw_r ad 0), .int (nI j), .long y78, .long y85]) (rest := []) ⟨hx, hb, hml, hown, hG⟩ (k_La_key1 l hst D g ad G G F N0 j y78 y85 hj (by omega)) (aw_wW 4 hG gw_4_19 gw_4_17 gw_0_0 gw_4_18 rfl rfl hd_La_key ⟨Nat.le_of_ble_eq_true rfl, Nat.le_of_ble_eq_true rfl⟩) (aw_qS hP hD hSh hU hS) rfl rfl hl.1 rfl (lv_room (Nat.le_of_ble_eq_true rfl)) d_La_law_196 ⟨by omega, by omega⟩) hS (fun _ _ h => h) (fun _ h => h) (fun x86 u8 t8 H locs ht _ hpx86 hB _ _ hS => ?_)
          obtain ⟨L, hP, hD, hSh⟩ := hB
          rw [ht] at hP
          clear ht
          subst hpx86
          refine lv_istore hx hb d_La_law_199 hl (by decide) rfl (fun ls hl => ?_)
          have hl : lv_has ls 8 [(5, .int (nI 0)), (0, .ref b), (1, .ref (aw_r ad 0)), (2, .ref (aw_m ad 0)), (3, .ref (aw_o ad)), (4, .int (nI (6 * t)))] := hl
          refine lv_aload_n hx hb d_La_law_201 rfl (lv_at hl 3 rfl) ?_
          refine lv_aload_n hx hb d_La_law_202 rfl (lv_at hl 1 rfl) ?_
          refine lv_iload hx hb d_La_law_203 (lv_at hl 5 rfl) ?_
          refine lv_iconst (v := nI 1) hx hb d_La_law_205 (by decide +kernel) ?_
          refine lv_iadd hx hb d_La_law_206 ?_
          refine aw_ti (nI_add (6 * t) 1) ?_
          refine va_sld hx hb hX hbl hbA hS (i := (nI ((6 * t) + 1))) (vp_in_nI (by omega) (by omega)) d_La_law_207 ?_
          refine aw_ti (y := nI j) (by rw [nI_clamp (by omega)]; exact hc0.symm) ?_
          refine lv_aload_n hx hb d_La_law_208 rfl (lv_at hl 1 rfl) ?_
          refine lv_iload hx hb d_La_law_209 (lv_at hl 5 rfl) ?_
          refine lv_iconst (v := nI 2) hx hb d_La_law_211 (by decide +kernel) ?_
          refine lv_iadd hx hb d_La_law_212 ?_
          refine aw_ti (nI_add (6 * t) 2) ?_
          refine va_sld hx hb hX hbl hbA hS (i := (nI ((6 * t) + 2))) (vp_in_nI (by omega) (by omega)) d_La_law_213 ?_
          refine lv_topi (fun x87 _ => ?_)
          refine lv_i2l hx hb d_La_law_214 rfl ?_
          refine lv_topl (fun y88 _ => ?_)
          refine lv_bipush (v := nI 32) hx hb d_La_law_215 (by decide +kernel) ?_
          refine lv_lshl hx hb d_La_law_217 rfl ?_
          refine lv_topl (fun y89 _ => ?_)
          refine lv_aload_n hx hb d_La_law_218 rfl (lv_at hl 1 rfl) ?_
          refine lv_iload hx hb d_La_law_219 (lv_at hl 5 rfl) ?_
          refine lv_iconst (v := nI 3) hx hb d_La_law_221 (by decide +kernel) ?_
          refine lv_iadd hx hb d_La_law_222 ?_
          refine aw_ti (nI_add (6 * t) 3) ?_
          refine va_sld hx hb hX hbl hbA hS (i := (nI ((6 * t) + 3))) (vp_in_nI (by omega) (by omega)) d_La_law_223 ?_
          refine lv_topi (fun x90 _ => ?_)
          refine lv_i2l hx hb d_La_law_224 rfl ?_
          refine lv_topl (fun y91 _ => ?_)
          refine lv_ldc2 (v := 4294967295) hx hb hown (hG _ gw_13_3) d_La_law_225 ?_
          refine lv_land hx hb d_La_law_228 ?_
          refine lv_topl (fun y92 _ => ?_)
          refine lv_lor hx hb d_La_law_229 ?_
          refine lv_topl (fun y93 _ => ?_)
          refine lv_aload_n hx hb d_La_law_230 rfl (lv_at hl 1 rfl) ?_
          refine lv_iload hx hb d_La_law_231 (lv_at hl 5 rfl) ?_
          refine lv_iconst (v := nI 4) hx hb d_La_law_233 (by decide +kernel) ?_
          refine lv_iadd hx hb d_La_law_234 ?_
          refine aw_ti (nI_add (6 * t) 4) ?_
          refine va_sld hx hb hX hbl hbA hS (i := (nI ((6 * t) + 4))) (vp_in_nI (by omega) (by omega)) d_La_law_235 ?_
          refine lv_topi (fun x94 _ => ?_)
          refine lv_i2l hx hb d_La_law_236 rfl ?_
          refine lv_topl (fun y95 _ => ?_)
          refine lv_bipush (v := nI 32) hx hb d_La_law_237 (by decide +kernel) ?_
          refine lv_lshl hx hb d_La_law_239 rfl ?_
          refine lv_topl (fun y96 _ => ?_)
          refine lv_aload_n hx hb d_La_law_240 rfl (lv_at hl 1 rfl) ?_
          refine lv_iload hx hb d_La_law_241 (lv_at hl 5 rfl) ?_
          refine lv_iconst (v := nI 5) hx hb d_La_law_243 (by decide +kernel) ?_
          refine lv_iadd hx hb d_La_law_244 ?_
          refine aw_ti (nI_add (6 * t) 5) ?_
          refine va_sld hx hb hX hbl hbA hS (i := (nI ((6 * t) + 5))) (vp_in_nI (by omega) (by omega)) d_La_law_245 ?_
          refine lv_topi (fun x97 _ => ?_)
          refine lv_i2l hx hb d_La_law_246 rfl ?_
          refine lv_topl (fun y98 _ => ?_)
          refine lv_ldc2 (v := 4294967295) hx hb hown (hG _ gw_13_3) d_La_law_247 ?_
          refine lv_land hx hb d_La_law_250 ?_
          refine lv_topl (fun y99 _ => ?_)
          refine lv_lor hx hb d_La_law_251 ?_
          refine lv_topl (fun y100 _ => ?_)
          obtain ⟨_, _, _, he101⟩ := rd_M0 hSh
          refine va_callv (va_runV (As := [.int (nI j), .long y93, .long y100]) (rest := []) ⟨hx, hb, hml, hown, hG⟩ (k_Mo_key1 l D g ad (aw_g1 G j 2) G F N0 j y93 y100 hj (by omega)) (aw_wV 3 hG gw_10_41 gw_10_38 gw_0_10 gw_10_39 gw_10_40 rfl rfl hd_Mo_key ⟨Nat.le_of_ble_eq_true rfl, Nat.le_of_ble_eq_true rfl⟩) (aw_qV (va_recv hK hP rfl he101) hP hD hSh hU hS) rfl rfl hl.1 rfl (lv_room (Nat.le_of_ble_eq_true rfl)) d_La_law_252 ⟨by omega, by omega⟩) hS (fun _ _ h => h) (fun _ h => h) (fun u8 t8 H locs ht _ _ hB _ _ hS => ?_)
          obtain ⟨L, hP, hD, hSh⟩ := hB
          rw [ht] at hP
          clear ht
          refine lv_goto (tgt := 837) hx hb d_La_law_255 (by decide) ?_
          refine lv_iinc (k := 5) (v := nI (6 * t + 6)) hx hb d_La_law_837 hl rfl (aw_inc (6 * t) 6 6 (by decide +kernel)) (by decide) rfl (fun ls hl => ?_)
          have hl : lv_has ls 8 [(4, .int (nI (6 * t + 6))), (5, .int (nI 0)), (0, .ref b), (1, .ref (aw_r ad 0)), (2, .ref (aw_m ad 0)), (3, .ref (aw_o ad))] := hl
          refine lv_goto (tgt := 23) hx hb d_La_law_840 (by decide) ?_
          have hl := lv_sub hl (l' := [(0, .ref b), (1, .ref (aw_r ad 0)), (2, .ref (aw_m ad 0)), (3, .ref (aw_o ad)), (4, .int (nI (6 * t + 6)))]) [2, 3, 4, 5, 0] rfl
          refine W.widen (k := 85 + (t + 1)) (n := 1246 + 6 * (t + 1)) (by omega) (by omega) ?_
          exact ih (t + 1) (aw_g1 G j 2) (nI 0) _ _ L ls (by omega) hP hD hSh hS (by first | exact hl | simpa [Nat.mul_add] using hl)
    · refine aw_ti (y := nI 2) (by rw [hs3]) ?_
      refine lv_tableIn (tgt := 258) (off := 218) hx hb d_La_law_40 (by decide +kernel) (by decide +kernel) (by decide +kernel) (by decide) ?_
      obtain ⟨c0, hc0⟩ : ∃ z : Int32, z = xs (6 * t + 1) := ⟨_, rfl⟩
      obtain ⟨k0, hk0⟩ : ∃ z : Int32, z = xs (6 * t + 2) := ⟨_, rfl⟩
      rcases aw_rng 4 (by decide) c0 with hc | ⟨j, hj, rfl⟩
      · refine lv_aload_n hx hb d_La_law_258 rfl (lv_at hl 1 rfl) ?_
        refine lv_aload_n hx hb d_La_law_259 rfl (lv_at hl 0 rfl) ?_
        refine lv_iload hx hb d_La_law_260 (lv_at hl 4 rfl) ?_
        refine lv_iconst (v := nI 1) hx hb d_La_law_262 (by decide +kernel) ?_
        refine lv_iadd hx hb d_La_law_263 ?_
        refine aw_ti (nI_add (6 * t) 1) ?_
        refine va_sld hx hb hX hbl hbA hS (i := (nI ((6 * t) + 1))) (vp_in_nI (by omega) (by omega)) d_La_law_264 ?_
        refine aw_ti (y := c0) (by rw [nI_clamp (by omega)]; exact hc0.symm) ?_
        refine lv_aload_n hx hb d_La_law_265 rfl (lv_at hl 0 rfl) ?_
        refine lv_iload hx hb d_La_law_266 (lv_at hl 4 rfl) ?_
        refine lv_iconst (v := nI 2) hx hb d_La_law_268 (by decide +kernel) ?_
        refine lv_iadd hx hb d_La_law_269 ?_
        refine aw_ti (nI_add (6 * t) 2) ?_
        refine va_sld hx hb hX hbl hbA hS (i := (nI ((6 * t) + 2))) (vp_in_nI (by omega) (by omega)) d_La_law_270 ?_
        refine aw_ti (y := k0) (by rw [nI_clamp (by omega)]; exact hk0.symm) ?_
        refine lv_aload_n hx hb d_La_law_271 rfl (lv_at hl 0 rfl) ?_
        refine lv_iload hx hb d_La_law_272 (lv_at hl 4 rfl) ?_
        refine lv_iconst (v := nI 3) hx hb d_La_law_274 (by decide +kernel) ?_
        refine lv_iadd hx hb d_La_law_275 ?_
        refine aw_ti (nI_add (6 * t) 3) ?_
        refine va_sld hx hb hX hbl hbA hS (i := (nI ((6 * t) + 3))) (vp_in_nI (by omega) (by omega)) d_La_law_276 ?_
        refine lv_topi (fun x102 _ => ?_)
        refine lv_i2l hx hb d_La_law_277 rfl ?_
        refine lv_topl (fun y103 _ => ?_)
        refine lv_bipush (v := nI 32) hx hb d_La_law_278 (by decide +kernel) ?_
        refine lv_lshl hx hb d_La_law_280 rfl ?_
        refine lv_topl (fun y104 _ => ?_)
        refine lv_aload_n hx hb d_La_law_281 rfl (lv_at hl 0 rfl) ?_
        refine lv_iload hx hb d_La_law_282 (lv_at hl 4 rfl) ?_
        refine lv_iconst (v := nI 4) hx hb d_La_law_284 (by decide +kernel) ?_
        refine lv_iadd hx hb d_La_law_285 ?_
        refine aw_ti (nI_add (6 * t) 4) ?_
        refine va_sld hx hb hX hbl hbA hS (i := (nI ((6 * t) + 4))) (vp_in_nI (by omega) (by omega)) d_La_law_286 ?_
        refine lv_topi (fun x105 _ => ?_)
        refine lv_i2l hx hb d_La_law_287 rfl ?_
        refine lv_topl (fun y106 _ => ?_)
        refine lv_ldc2 (v := 4294967295) hx hb hown (hG _ gw_13_3) d_La_law_288 ?_
        refine lv_land hx hb d_La_law_291 ?_
        refine lv_topl (fun y107 _ => ?_)
        refine lv_lor hx hb d_La_law_292 ?_
        refine lv_topl (fun y108 _ => ?_)
        refine va_calli (vx_runSW (As := [.ref (aw_r ad 0), .int c0, .int k0, .long y108]) (rest := []) ⟨hx, hb, hml, hown, hG⟩ (k_La_modeXc l hst D g ad G G F N0 c0 k0 y108 hc) (aw_wW 4 hG gw_5_23 gw_5_21 gw_0_0 gw_5_22 rfl rfl hd_La_mode ⟨Nat.le_of_ble_eq_true rfl, Nat.le_of_ble_eq_true rfl⟩) (aw_qS hP hD hSh hU hS) rfl rfl hl.1 rfl (lv_room (Nat.le_of_ble_eq_true rfl)) d_La_law_293 ⟨by omega, by omega⟩) hS (fun _ _ h => h) (fun _ h => h) (fun x109 u8 t8 H locs ht _ hpx109 hB _ _ hS => ?_)
        obtain ⟨L, hP, hD, hSh⟩ := hB
        rw [ht] at hP
        clear ht
        subst hpx109
        refine lv_istore hx hb d_La_law_296 hl (by decide) rfl (fun ls hl => ?_)
        have hl : lv_has ls 8 [(5, .int (nI 1)), (0, .ref b), (1, .ref (aw_r ad 0)), (2, .ref (aw_m ad 0)), (3, .ref (aw_o ad)), (4, .int (nI (6 * t)))] := hl
        refine lv_aload_n hx hb d_La_law_298 rfl (lv_at hl 3 rfl) ?_
        refine lv_aload_n hx hb d_La_law_299 rfl (lv_at hl 1 rfl) ?_
        refine lv_iload hx hb d_La_law_300 (lv_at hl 5 rfl) ?_
        refine lv_iconst (v := nI 1) hx hb d_La_law_302 (by decide +kernel) ?_
        refine lv_iadd hx hb d_La_law_303 ?_
        refine aw_ti (nI_add (6 * t) 1) ?_
        refine va_sld hx hb hX hbl hbA hS (i := (nI ((6 * t) + 1))) (vp_in_nI (by omega) (by omega)) d_La_law_304 ?_
        refine aw_ti (y := c0) (by rw [nI_clamp (by omega)]; exact hc0.symm) ?_
        refine lv_aload_n hx hb d_La_law_305 rfl (lv_at hl 1 rfl) ?_
        refine lv_iload hx hb d_La_law_306 (lv_at hl 5 rfl) ?_
        refine lv_iconst (v := nI 2) hx hb d_La_law_308 (by decide +kernel) ?_
        refine lv_iadd hx hb d_La_law_309 ?_
        refine aw_ti (nI_add (6 * t) 2) ?_
        refine va_sld hx hb hX hbl hbA hS (i := (nI ((6 * t) + 2))) (vp_in_nI (by omega) (by omega)) d_La_law_310 ?_
        refine aw_ti (y := k0) (by rw [nI_clamp (by omega)]; exact hk0.symm) ?_
        refine lv_aload_n hx hb d_La_law_311 rfl (lv_at hl 1 rfl) ?_
        refine lv_iload hx hb d_La_law_312 (lv_at hl 5 rfl) ?_
        refine lv_iconst (v := nI 3) hx hb d_La_law_314 (by decide +kernel) ?_
        refine lv_iadd hx hb d_La_law_315 ?_
        refine aw_ti (nI_add (6 * t) 3) ?_
        refine va_sld hx hb hX hbl hbA hS (i := (nI ((6 * t) + 3))) (vp_in_nI (by omega) (by omega)) d_La_law_316 ?_
        refine lv_topi (fun x110 _ => ?_)
        refine lv_i2l hx hb d_La_law_317 rfl ?_
        refine lv_topl (fun y111 _ => ?_)
        refine lv_bipush (v := nI 32) hx hb d_La_law_318 (by decide +kernel) ?_
        refine lv_lshl hx hb d_La_law_320 rfl ?_
        refine lv_topl (fun y112 _ => ?_)
        refine lv_aload_n hx hb d_La_law_321 rfl (lv_at hl 1 rfl) ?_
        refine lv_iload hx hb d_La_law_322 (lv_at hl 5 rfl) ?_
        refine lv_iconst (v := nI 4) hx hb d_La_law_324 (by decide +kernel) ?_
        refine lv_iadd hx hb d_La_law_325 ?_
        refine aw_ti (nI_add (6 * t) 4) ?_
        refine va_sld hx hb hX hbl hbA hS (i := (nI ((6 * t) + 4))) (vp_in_nI (by omega) (by omega)) d_La_law_326 ?_
        refine lv_topi (fun x113 _ => ?_)
        refine lv_i2l hx hb d_La_law_327 rfl ?_
        refine lv_topl (fun y114 _ => ?_)
        refine lv_ldc2 (v := 4294967295) hx hb hown (hG _ gw_13_3) d_La_law_328 ?_
        refine lv_land hx hb d_La_law_331 ?_
        refine lv_topl (fun y115 _ => ?_)
        refine lv_lor hx hb d_La_law_332 ?_
        refine lv_topl (fun y116 _ => ?_)
        obtain ⟨_, _, _, he117⟩ := rd_M0 hSh
        refine va_callv (va_runV (As := [.int c0, .int k0, .long y116]) (rest := []) ⟨hx, hb, hml, hown, hG⟩ (k_Mo_modeXc l D g ad G G F N0 c0 k0 y116 hc) (aw_wV 3 hG gw_10_45 gw_10_42 gw_0_10 gw_10_43 gw_10_44 rfl rfl hd_Mo_mode ⟨Nat.le_of_ble_eq_true rfl, Nat.le_of_ble_eq_true rfl⟩) (aw_qV (va_recv hK hP rfl he117) hP hD hSh hU hS) rfl rfl hl.1 rfl (lv_room (Nat.le_of_ble_eq_true rfl)) d_La_law_333 ⟨by omega, by omega⟩) hS (fun _ _ h => h) (fun _ h => h) (fun u8 t8 H locs ht _ _ hB _ _ hS => ?_)
        obtain ⟨L, hP, hD, hSh⟩ := hB
        rw [ht] at hP
        clear ht
        refine lv_goto (tgt := 837) hx hb d_La_law_336 (by decide) ?_
        refine lv_iinc (k := 5) (v := nI (6 * t + 6)) hx hb d_La_law_837 hl rfl (aw_inc (6 * t) 6 6 (by decide +kernel)) (by decide) rfl (fun ls hl => ?_)
        have hl : lv_has ls 8 [(4, .int (nI (6 * t + 6))), (5, .int (nI 1)), (0, .ref b), (1, .ref (aw_r ad 0)), (2, .ref (aw_m ad 0)), (3, .ref (aw_o ad))] := hl
        refine lv_goto (tgt := 23) hx hb d_La_law_840 (by decide) ?_
        have hl := lv_sub hl (l' := [(0, .ref b), (1, .ref (aw_r ad 0)), (2, .ref (aw_m ad 0)), (3, .ref (aw_o ad)), (4, .int (nI (6 * t + 6)))]) [2, 3, 4, 5, 0] rfl
        refine W.widen (k := 85 + (t + 1)) (n := 1246 + 6 * (t + 1)) (by omega) (by omega) ?_
        exact ih (t + 1) G (nI 1) _ _ L ls (by omega) hP hD hSh hS (by first | exact hl | simpa [Nat.mul_add] using hl)
      · have hgj := hSh.2.2.2.2.1 j hj
        rcases aw_ovr 5 (by decide) k0 with hk | ⟨k, hk, rfl⟩
        · refine lv_aload_n hx hb d_La_law_258 rfl (lv_at hl 1 rfl) ?_
          refine lv_aload_n hx hb d_La_law_259 rfl (lv_at hl 0 rfl) ?_
          refine lv_iload hx hb d_La_law_260 (lv_at hl 4 rfl) ?_
          refine lv_iconst (v := nI 1) hx hb d_La_law_262 (by decide +kernel) ?_
          refine lv_iadd hx hb d_La_law_263 ?_
          refine aw_ti (nI_add (6 * t) 1) ?_
          refine va_sld hx hb hX hbl hbA hS (i := (nI ((6 * t) + 1))) (vp_in_nI (by omega) (by omega)) d_La_law_264 ?_
          refine aw_ti (y := nI j) (by rw [nI_clamp (by omega)]; exact hc0.symm) ?_
          refine lv_aload_n hx hb d_La_law_265 rfl (lv_at hl 0 rfl) ?_
          refine lv_iload hx hb d_La_law_266 (lv_at hl 4 rfl) ?_
          refine lv_iconst (v := nI 2) hx hb d_La_law_268 (by decide +kernel) ?_
          refine lv_iadd hx hb d_La_law_269 ?_
          refine aw_ti (nI_add (6 * t) 2) ?_
          refine va_sld hx hb hX hbl hbA hS (i := (nI ((6 * t) + 2))) (vp_in_nI (by omega) (by omega)) d_La_law_270 ?_
          refine aw_ti (y := k0) (by rw [nI_clamp (by omega)]; exact hk0.symm) ?_
          refine lv_aload_n hx hb d_La_law_271 rfl (lv_at hl 0 rfl) ?_
          refine lv_iload hx hb d_La_law_272 (lv_at hl 4 rfl) ?_
          refine lv_iconst (v := nI 3) hx hb d_La_law_274 (by decide +kernel) ?_
          refine lv_iadd hx hb d_La_law_275 ?_
          refine aw_ti (nI_add (6 * t) 3) ?_
          refine va_sld hx hb hX hbl hbA hS (i := (nI ((6 * t) + 3))) (vp_in_nI (by omega) (by omega)) d_La_law_276 ?_
          refine lv_topi (fun x118 _ => ?_)
          refine lv_i2l hx hb d_La_law_277 rfl ?_
          refine lv_topl (fun y119 _ => ?_)
          refine lv_bipush (v := nI 32) hx hb d_La_law_278 (by decide +kernel) ?_
          refine lv_lshl hx hb d_La_law_280 rfl ?_
          refine lv_topl (fun y120 _ => ?_)
          refine lv_aload_n hx hb d_La_law_281 rfl (lv_at hl 0 rfl) ?_
          refine lv_iload hx hb d_La_law_282 (lv_at hl 4 rfl) ?_
          refine lv_iconst (v := nI 4) hx hb d_La_law_284 (by decide +kernel) ?_
          refine lv_iadd hx hb d_La_law_285 ?_
          refine aw_ti (nI_add (6 * t) 4) ?_
          refine va_sld hx hb hX hbl hbA hS (i := (nI ((6 * t) + 4))) (vp_in_nI (by omega) (by omega)) d_La_law_286 ?_
          refine lv_topi (fun x121 _ => ?_)
          refine lv_i2l hx hb d_La_law_287 rfl ?_
          refine lv_topl (fun y122 _ => ?_)
          refine lv_ldc2 (v := 4294967295) hx hb hown (hG _ gw_13_3) d_La_law_288 ?_
          refine lv_land hx hb d_La_law_291 ?_
          refine lv_topl (fun y123 _ => ?_)
          refine lv_lor hx hb d_La_law_292 ?_
          refine lv_topl (fun y124 _ => ?_)
          refine va_calli (vx_runSW (As := [.ref (aw_r ad 0), .int (nI j), .int k0, .long y124]) (rest := []) ⟨hx, hb, hml, hown, hG⟩ (k_La_modeXa l hst D g ad G G F N0 j k0 y124 hj hk) (aw_wW 4 hG gw_5_23 gw_5_21 gw_0_0 gw_5_22 rfl rfl hd_La_mode ⟨Nat.le_of_ble_eq_true rfl, Nat.le_of_ble_eq_true rfl⟩) (aw_qS hP hD hSh hU hS) rfl rfl hl.1 rfl (lv_room (Nat.le_of_ble_eq_true rfl)) d_La_law_293 ⟨by omega, by omega⟩) hS (fun _ _ h => h) (fun _ h => h) (fun x125 u8 t8 H locs ht _ hpx125 hB _ _ hS => ?_)
          obtain ⟨L, hP, hD, hSh⟩ := hB
          rw [ht] at hP
          clear ht
          subst hpx125
          refine lv_istore hx hb d_La_law_296 hl (by decide) rfl (fun ls hl => ?_)
          have hl : lv_has ls 8 [(5, .int (nI 2)), (0, .ref b), (1, .ref (aw_r ad 0)), (2, .ref (aw_m ad 0)), (3, .ref (aw_o ad)), (4, .int (nI (6 * t)))] := hl
          refine lv_aload_n hx hb d_La_law_298 rfl (lv_at hl 3 rfl) ?_
          refine lv_aload_n hx hb d_La_law_299 rfl (lv_at hl 1 rfl) ?_
          refine lv_iload hx hb d_La_law_300 (lv_at hl 5 rfl) ?_
          refine lv_iconst (v := nI 1) hx hb d_La_law_302 (by decide +kernel) ?_
          refine lv_iadd hx hb d_La_law_303 ?_
          refine aw_ti (nI_add (6 * t) 1) ?_
          refine va_sld hx hb hX hbl hbA hS (i := (nI ((6 * t) + 1))) (vp_in_nI (by omega) (by omega)) d_La_law_304 ?_
          refine aw_ti (y := nI j) (by rw [nI_clamp (by omega)]; exact hc0.symm) ?_
          refine lv_aload_n hx hb d_La_law_305 rfl (lv_at hl 1 rfl) ?_
          refine lv_iload hx hb d_La_law_306 (lv_at hl 5 rfl) ?_
          refine lv_iconst (v := nI 2) hx hb d_La_law_308 (by decide +kernel) ?_
          refine lv_iadd hx hb d_La_law_309 ?_
          refine aw_ti (nI_add (6 * t) 2) ?_
          refine va_sld hx hb hX hbl hbA hS (i := (nI ((6 * t) + 2))) (vp_in_nI (by omega) (by omega)) d_La_law_310 ?_
          refine aw_ti (y := k0) (by rw [nI_clamp (by omega)]; exact hk0.symm) ?_
          refine lv_aload_n hx hb d_La_law_311 rfl (lv_at hl 1 rfl) ?_
          refine lv_iload hx hb d_La_law_312 (lv_at hl 5 rfl) ?_
          refine lv_iconst (v := nI 3) hx hb d_La_law_314 (by decide +kernel) ?_
          refine lv_iadd hx hb d_La_law_315 ?_
          refine aw_ti (nI_add (6 * t) 3) ?_
          refine va_sld hx hb hX hbl hbA hS (i := (nI ((6 * t) + 3))) (vp_in_nI (by omega) (by omega)) d_La_law_316 ?_
          refine lv_topi (fun x126 _ => ?_)
          refine lv_i2l hx hb d_La_law_317 rfl ?_
          refine lv_topl (fun y127 _ => ?_)
          refine lv_bipush (v := nI 32) hx hb d_La_law_318 (by decide +kernel) ?_
          refine lv_lshl hx hb d_La_law_320 rfl ?_
          refine lv_topl (fun y128 _ => ?_)
          refine lv_aload_n hx hb d_La_law_321 rfl (lv_at hl 1 rfl) ?_
          refine lv_iload hx hb d_La_law_322 (lv_at hl 5 rfl) ?_
          refine lv_iconst (v := nI 4) hx hb d_La_law_324 (by decide +kernel) ?_
          refine lv_iadd hx hb d_La_law_325 ?_
          refine aw_ti (nI_add (6 * t) 4) ?_
          refine va_sld hx hb hX hbl hbA hS (i := (nI ((6 * t) + 4))) (vp_in_nI (by omega) (by omega)) d_La_law_326 ?_
          refine lv_topi (fun x129 _ => ?_)
          refine lv_i2l hx hb d_La_law_327 rfl ?_
          refine lv_topl (fun y130 _ => ?_)
          refine lv_ldc2 (v := 4294967295) hx hb hown (hG _ gw_13_3) d_La_law_328 ?_
          refine lv_land hx hb d_La_law_331 ?_
          refine lv_topl (fun y131 _ => ?_)
          refine lv_lor hx hb d_La_law_332 ?_
          refine lv_topl (fun y132 _ => ?_)
          obtain ⟨_, _, _, he133⟩ := rd_M0 hSh
          refine va_callv (va_runV (As := [.int (nI j), .int k0, .long y132]) (rest := []) ⟨hx, hb, hml, hown, hG⟩ (k_Mo_modeXa l D g ad G G F N0 j k0 y132 hj hk) (aw_wV 3 hG gw_10_45 gw_10_42 gw_0_10 gw_10_43 gw_10_44 rfl rfl hd_Mo_mode ⟨Nat.le_of_ble_eq_true rfl, Nat.le_of_ble_eq_true rfl⟩) (aw_qV (va_recv hK hP rfl he133) hP hD hSh hU hS) rfl rfl hl.1 rfl (lv_room (Nat.le_of_ble_eq_true rfl)) d_La_law_333 ⟨by omega, by omega⟩) hS (fun _ _ h => h) (fun _ h => h) (fun u8 t8 H locs ht _ _ hB _ _ hS => ?_)
          obtain ⟨L, hP, hD, hSh⟩ := hB
          rw [ht] at hP
          clear ht
          refine lv_goto (tgt := 837) hx hb d_La_law_336 (by decide) ?_
          refine lv_iinc (k := 5) (v := nI (6 * t + 6)) hx hb d_La_law_837 hl rfl (aw_inc (6 * t) 6 6 (by decide +kernel)) (by decide) rfl (fun ls hl => ?_)
          have hl : lv_has ls 8 [(4, .int (nI (6 * t + 6))), (5, .int (nI 2)), (0, .ref b), (1, .ref (aw_r ad 0)), (2, .ref (aw_m ad 0)), (3, .ref (aw_o ad))] := hl
          refine lv_goto (tgt := 23) hx hb d_La_law_840 (by decide) ?_
          have hl := lv_sub hl (l' := [(0, .ref b), (1, .ref (aw_r ad 0)), (2, .ref (aw_m ad 0)), (3, .ref (aw_o ad)), (4, .int (nI (6 * t + 6)))]) [2, 3, 4, 5, 0] rfl
          refine W.widen (k := 85 + (t + 1)) (n := 1246 + 6 * (t + 1)) (by omega) (by omega) ?_
          exact ih (t + 1) G (nI 2) _ _ L ls (by omega) hP hD hSh hS (by first | exact hl | simpa [Nat.mul_add] using hl)
        · by_cases hs : 2 ≤ (G j).1
          · refine lv_aload_n hx hb d_La_law_258 rfl (lv_at hl 1 rfl) ?_
            refine lv_aload_n hx hb d_La_law_259 rfl (lv_at hl 0 rfl) ?_
            refine lv_iload hx hb d_La_law_260 (lv_at hl 4 rfl) ?_
            refine lv_iconst (v := nI 1) hx hb d_La_law_262 (by decide +kernel) ?_
            refine lv_iadd hx hb d_La_law_263 ?_
            refine aw_ti (nI_add (6 * t) 1) ?_
            refine va_sld hx hb hX hbl hbA hS (i := (nI ((6 * t) + 1))) (vp_in_nI (by omega) (by omega)) d_La_law_264 ?_
            refine aw_ti (y := nI j) (by rw [nI_clamp (by omega)]; exact hc0.symm) ?_
            refine lv_aload_n hx hb d_La_law_265 rfl (lv_at hl 0 rfl) ?_
            refine lv_iload hx hb d_La_law_266 (lv_at hl 4 rfl) ?_
            refine lv_iconst (v := nI 2) hx hb d_La_law_268 (by decide +kernel) ?_
            refine lv_iadd hx hb d_La_law_269 ?_
            refine aw_ti (nI_add (6 * t) 2) ?_
            refine va_sld hx hb hX hbl hbA hS (i := (nI ((6 * t) + 2))) (vp_in_nI (by omega) (by omega)) d_La_law_270 ?_
            refine aw_ti (y := nI k) (by rw [nI_clamp (by omega)]; exact hk0.symm) ?_
            refine lv_aload_n hx hb d_La_law_271 rfl (lv_at hl 0 rfl) ?_
            refine lv_iload hx hb d_La_law_272 (lv_at hl 4 rfl) ?_
            refine lv_iconst (v := nI 3) hx hb d_La_law_274 (by decide +kernel) ?_
            refine lv_iadd hx hb d_La_law_275 ?_
            refine aw_ti (nI_add (6 * t) 3) ?_
            refine va_sld hx hb hX hbl hbA hS (i := (nI ((6 * t) + 3))) (vp_in_nI (by omega) (by omega)) d_La_law_276 ?_
            refine lv_topi (fun x134 _ => ?_)
            refine lv_i2l hx hb d_La_law_277 rfl ?_
            refine lv_topl (fun y135 _ => ?_)
            refine lv_bipush (v := nI 32) hx hb d_La_law_278 (by decide +kernel) ?_
            refine lv_lshl hx hb d_La_law_280 rfl ?_
            refine lv_topl (fun y136 _ => ?_)
            refine lv_aload_n hx hb d_La_law_281 rfl (lv_at hl 0 rfl) ?_
            refine lv_iload hx hb d_La_law_282 (lv_at hl 4 rfl) ?_
            refine lv_iconst (v := nI 4) hx hb d_La_law_284 (by decide +kernel) ?_
            refine lv_iadd hx hb d_La_law_285 ?_
            refine aw_ti (nI_add (6 * t) 4) ?_
            refine va_sld hx hb hX hbl hbA hS (i := (nI ((6 * t) + 4))) (vp_in_nI (by omega) (by omega)) d_La_law_286 ?_
            refine lv_topi (fun x137 _ => ?_)
            refine lv_i2l hx hb d_La_law_287 rfl ?_
            refine lv_topl (fun y138 _ => ?_)
            refine lv_ldc2 (v := 4294967295) hx hb hown (hG _ gw_13_3) d_La_law_288 ?_
            refine lv_land hx hb d_La_law_291 ?_
            refine lv_topl (fun y139 _ => ?_)
            refine lv_lor hx hb d_La_law_292 ?_
            refine lv_topl (fun y140 _ => ?_)
            refine va_calli (vx_runSW (As := [.ref (aw_r ad 0), .int (nI j), .int (nI k), .long y140]) (rest := []) ⟨hx, hb, hml, hown, hG⟩ (k_La_mode1 l hst D g ad G G F N0 j k y140 hj (by omega) (by omega)) (aw_wW 4 hG gw_5_23 gw_5_21 gw_0_0 gw_5_22 rfl rfl hd_La_mode ⟨Nat.le_of_ble_eq_true rfl, Nat.le_of_ble_eq_true rfl⟩) (aw_qS hP hD hSh hU hS) rfl rfl hl.1 rfl (lv_room (Nat.le_of_ble_eq_true rfl)) d_La_law_293 ⟨by omega, by omega⟩) hS (fun _ _ h => h) (fun _ h => h) (fun x141 u8 t8 H locs ht _ hpx141 hB _ _ hS => ?_)
            obtain ⟨L, hP, hD, hSh⟩ := hB
            rw [ht] at hP
            clear ht
            subst hpx141
            refine lv_istore hx hb d_La_law_296 hl (by decide) rfl (fun ls hl => ?_)
            have hl : lv_has ls 8 [(5, .int (nI 0)), (0, .ref b), (1, .ref (aw_r ad 0)), (2, .ref (aw_m ad 0)), (3, .ref (aw_o ad)), (4, .int (nI (6 * t)))] := hl
            refine lv_aload_n hx hb d_La_law_298 rfl (lv_at hl 3 rfl) ?_
            refine lv_aload_n hx hb d_La_law_299 rfl (lv_at hl 1 rfl) ?_
            refine lv_iload hx hb d_La_law_300 (lv_at hl 5 rfl) ?_
            refine lv_iconst (v := nI 1) hx hb d_La_law_302 (by decide +kernel) ?_
            refine lv_iadd hx hb d_La_law_303 ?_
            refine aw_ti (nI_add (6 * t) 1) ?_
            refine va_sld hx hb hX hbl hbA hS (i := (nI ((6 * t) + 1))) (vp_in_nI (by omega) (by omega)) d_La_law_304 ?_
            refine aw_ti (y := nI j) (by rw [nI_clamp (by omega)]; exact hc0.symm) ?_
            refine lv_aload_n hx hb d_La_law_305 rfl (lv_at hl 1 rfl) ?_
            refine lv_iload hx hb d_La_law_306 (lv_at hl 5 rfl) ?_
            refine lv_iconst (v := nI 2) hx hb d_La_law_308 (by decide +kernel) ?_
            refine lv_iadd hx hb d_La_law_309 ?_
            refine aw_ti (nI_add (6 * t) 2) ?_
            refine va_sld hx hb hX hbl hbA hS (i := (nI ((6 * t) + 2))) (vp_in_nI (by omega) (by omega)) d_La_law_310 ?_
            refine aw_ti (y := nI k) (by rw [nI_clamp (by omega)]; exact hk0.symm) ?_
            refine lv_aload_n hx hb d_La_law_311 rfl (lv_at hl 1 rfl) ?_
            refine lv_iload hx hb d_La_law_312 (lv_at hl 5 rfl) ?_
            refine lv_iconst (v := nI 3) hx hb d_La_law_314 (by decide +kernel) ?_
            refine lv_iadd hx hb d_La_law_315 ?_
            refine aw_ti (nI_add (6 * t) 3) ?_
            refine va_sld hx hb hX hbl hbA hS (i := (nI ((6 * t) + 3))) (vp_in_nI (by omega) (by omega)) d_La_law_316 ?_
            refine lv_topi (fun x142 _ => ?_)
            refine lv_i2l hx hb d_La_law_317 rfl ?_
            refine lv_topl (fun y143 _ => ?_)
            refine lv_bipush (v := nI 32) hx hb d_La_law_318 (by decide +kernel) ?_
            refine lv_lshl hx hb d_La_law_320 rfl ?_
            refine lv_topl (fun y144 _ => ?_)
            refine lv_aload_n hx hb d_La_law_321 rfl (lv_at hl 1 rfl) ?_
            refine lv_iload hx hb d_La_law_322 (lv_at hl 5 rfl) ?_
            refine lv_iconst (v := nI 4) hx hb d_La_law_324 (by decide +kernel) ?_
            refine lv_iadd hx hb d_La_law_325 ?_
            refine aw_ti (nI_add (6 * t) 4) ?_
            refine va_sld hx hb hX hbl hbA hS (i := (nI ((6 * t) + 4))) (vp_in_nI (by omega) (by omega)) d_La_law_326 ?_
            refine lv_topi (fun x145 _ => ?_)
            refine lv_i2l hx hb d_La_law_327 rfl ?_
            refine lv_topl (fun y146 _ => ?_)
            refine lv_ldc2 (v := 4294967295) hx hb hown (hG _ gw_13_3) d_La_law_328 ?_
            refine lv_land hx hb d_La_law_331 ?_
            refine lv_topl (fun y147 _ => ?_)
            refine lv_lor hx hb d_La_law_332 ?_
            refine lv_topl (fun y148 _ => ?_)
            obtain ⟨_, _, _, he149⟩ := rd_M0 hSh
            refine va_callv (va_runV (As := [.int (nI j), .int (nI k), .long y148]) (rest := []) ⟨hx, hb, hml, hown, hG⟩ (k_Mo_mode1 l D g ad (aw_g1 (aw_g2 G j k) j 3) G F N0 j k y148 hj (by omega) (by omega)) (aw_wV 3 hG gw_10_45 gw_10_42 gw_0_10 gw_10_43 gw_10_44 rfl rfl hd_Mo_mode ⟨Nat.le_of_ble_eq_true rfl, Nat.le_of_ble_eq_true rfl⟩) (aw_qV (va_recv hK hP rfl he149) hP hD hSh hU hS) rfl rfl hl.1 rfl (lv_room (Nat.le_of_ble_eq_true rfl)) d_La_law_333 ⟨by omega, by omega⟩) hS (fun _ _ h => h) (fun _ h => h) (fun u8 t8 H locs ht _ _ hB _ _ hS => ?_)
            obtain ⟨L, hP, hD, hSh⟩ := hB
            rw [ht] at hP
            clear ht
            refine lv_goto (tgt := 837) hx hb d_La_law_336 (by decide) ?_
            refine lv_iinc (k := 5) (v := nI (6 * t + 6)) hx hb d_La_law_837 hl rfl (aw_inc (6 * t) 6 6 (by decide +kernel)) (by decide) rfl (fun ls hl => ?_)
            have hl : lv_has ls 8 [(4, .int (nI (6 * t + 6))), (5, .int (nI 0)), (0, .ref b), (1, .ref (aw_r ad 0)), (2, .ref (aw_m ad 0)), (3, .ref (aw_o ad))] := hl
            refine lv_goto (tgt := 23) hx hb d_La_law_840 (by decide) ?_
            rw [aw_g12] at hSh
            have hl := lv_sub hl (l' := [(0, .ref b), (1, .ref (aw_r ad 0)), (2, .ref (aw_m ad 0)), (3, .ref (aw_o ad)), (4, .int (nI (6 * t + 6)))]) [2, 3, 4, 5, 0] rfl
            refine W.widen (k := 85 + (t + 1)) (n := 1246 + 6 * (t + 1)) (by omega) (by omega) ?_
            exact ih (t + 1) (aw_g2 (aw_g1 G j 3) j k) (nI 0) _ _ L ls (by omega) hP hD hSh hS (by first | exact hl | simpa [Nat.mul_add] using hl)
          · refine lv_aload_n hx hb d_La_law_258 rfl (lv_at hl 1 rfl) ?_
            refine lv_aload_n hx hb d_La_law_259 rfl (lv_at hl 0 rfl) ?_
            refine lv_iload hx hb d_La_law_260 (lv_at hl 4 rfl) ?_
            refine lv_iconst (v := nI 1) hx hb d_La_law_262 (by decide +kernel) ?_
            refine lv_iadd hx hb d_La_law_263 ?_
            refine aw_ti (nI_add (6 * t) 1) ?_
            refine va_sld hx hb hX hbl hbA hS (i := (nI ((6 * t) + 1))) (vp_in_nI (by omega) (by omega)) d_La_law_264 ?_
            refine aw_ti (y := nI j) (by rw [nI_clamp (by omega)]; exact hc0.symm) ?_
            refine lv_aload_n hx hb d_La_law_265 rfl (lv_at hl 0 rfl) ?_
            refine lv_iload hx hb d_La_law_266 (lv_at hl 4 rfl) ?_
            refine lv_iconst (v := nI 2) hx hb d_La_law_268 (by decide +kernel) ?_
            refine lv_iadd hx hb d_La_law_269 ?_
            refine aw_ti (nI_add (6 * t) 2) ?_
            refine va_sld hx hb hX hbl hbA hS (i := (nI ((6 * t) + 2))) (vp_in_nI (by omega) (by omega)) d_La_law_270 ?_
            refine aw_ti (y := nI k) (by rw [nI_clamp (by omega)]; exact hk0.symm) ?_
            refine lv_aload_n hx hb d_La_law_271 rfl (lv_at hl 0 rfl) ?_
            refine lv_iload hx hb d_La_law_272 (lv_at hl 4 rfl) ?_
            refine lv_iconst (v := nI 3) hx hb d_La_law_274 (by decide +kernel) ?_
            refine lv_iadd hx hb d_La_law_275 ?_
            refine aw_ti (nI_add (6 * t) 3) ?_
            refine va_sld hx hb hX hbl hbA hS (i := (nI ((6 * t) + 3))) (vp_in_nI (by omega) (by omega)) d_La_law_276 ?_
            refine lv_topi (fun x150 _ => ?_)
            refine lv_i2l hx hb d_La_law_277 rfl ?_
            refine lv_topl (fun y151 _ => ?_)
            refine lv_bipush (v := nI 32) hx hb d_La_law_278 (by decide +kernel) ?_
            refine lv_lshl hx hb d_La_law_280 rfl ?_
            refine lv_topl (fun y152 _ => ?_)
            refine lv_aload_n hx hb d_La_law_281 rfl (lv_at hl 0 rfl) ?_
            refine lv_iload hx hb d_La_law_282 (lv_at hl 4 rfl) ?_
            refine lv_iconst (v := nI 4) hx hb d_La_law_284 (by decide +kernel) ?_
            refine lv_iadd hx hb d_La_law_285 ?_
            refine aw_ti (nI_add (6 * t) 4) ?_
            refine va_sld hx hb hX hbl hbA hS (i := (nI ((6 * t) + 4))) (vp_in_nI (by omega) (by omega)) d_La_law_286 ?_
            refine lv_topi (fun x153 _ => ?_)
            refine lv_i2l hx hb d_La_law_287 rfl ?_
            refine lv_topl (fun y154 _ => ?_)
            refine lv_ldc2 (v := 4294967295) hx hb hown (hG _ gw_13_3) d_La_law_288 ?_
            refine lv_land hx hb d_La_law_291 ?_
            refine lv_topl (fun y155 _ => ?_)
            refine lv_lor hx hb d_La_law_292 ?_
            refine lv_topl (fun y156 _ => ?_)
            refine va_calli (vx_runSW (As := [.ref (aw_r ad 0), .int (nI j), .int (nI k), .long y156]) (rest := []) ⟨hx, hb, hml, hown, hG⟩ (k_La_modeXs l hst D g ad G G F N0 j k y156 hj (by omega) (by omega)) (aw_wW 4 hG gw_5_23 gw_5_21 gw_0_0 gw_5_22 rfl rfl hd_La_mode ⟨Nat.le_of_ble_eq_true rfl, Nat.le_of_ble_eq_true rfl⟩) (aw_qS hP hD hSh hU hS) rfl rfl hl.1 rfl (lv_room (Nat.le_of_ble_eq_true rfl)) d_La_law_293 ⟨by omega, by omega⟩) hS (fun _ _ h => h) (fun _ h => h) (fun x157 u8 t8 H locs ht _ hpx157 hB _ _ hS => ?_)
            obtain ⟨L, hP, hD, hSh⟩ := hB
            rw [ht] at hP
            clear ht
            subst hpx157
            refine lv_istore hx hb d_La_law_296 hl (by decide) rfl (fun ls hl => ?_)
            have hl : lv_has ls 8 [(5, .int (nI 3)), (0, .ref b), (1, .ref (aw_r ad 0)), (2, .ref (aw_m ad 0)), (3, .ref (aw_o ad)), (4, .int (nI (6 * t)))] := hl
            refine lv_aload_n hx hb d_La_law_298 rfl (lv_at hl 3 rfl) ?_
            refine lv_aload_n hx hb d_La_law_299 rfl (lv_at hl 1 rfl) ?_
            refine lv_iload hx hb d_La_law_300 (lv_at hl 5 rfl) ?_
            refine lv_iconst (v := nI 1) hx hb d_La_law_302 (by decide +kernel) ?_
            refine lv_iadd hx hb d_La_law_303 ?_
            refine aw_ti (nI_add (6 * t) 1) ?_
            refine va_sld hx hb hX hbl hbA hS (i := (nI ((6 * t) + 1))) (vp_in_nI (by omega) (by omega)) d_La_law_304 ?_
            refine aw_ti (y := nI j) (by rw [nI_clamp (by omega)]; exact hc0.symm) ?_
            refine lv_aload_n hx hb d_La_law_305 rfl (lv_at hl 1 rfl) ?_
            refine lv_iload hx hb d_La_law_306 (lv_at hl 5 rfl) ?_
            refine lv_iconst (v := nI 2) hx hb d_La_law_308 (by decide +kernel) ?_
            refine lv_iadd hx hb d_La_law_309 ?_
            refine aw_ti (nI_add (6 * t) 2) ?_
            refine va_sld hx hb hX hbl hbA hS (i := (nI ((6 * t) + 2))) (vp_in_nI (by omega) (by omega)) d_La_law_310 ?_
            refine aw_ti (y := nI k) (by rw [nI_clamp (by omega)]; exact hk0.symm) ?_
            refine lv_aload_n hx hb d_La_law_311 rfl (lv_at hl 1 rfl) ?_
            refine lv_iload hx hb d_La_law_312 (lv_at hl 5 rfl) ?_
            refine lv_iconst (v := nI 3) hx hb d_La_law_314 (by decide +kernel) ?_
            refine lv_iadd hx hb d_La_law_315 ?_
            refine aw_ti (nI_add (6 * t) 3) ?_
            refine va_sld hx hb hX hbl hbA hS (i := (nI ((6 * t) + 3))) (vp_in_nI (by omega) (by omega)) d_La_law_316 ?_
            refine lv_topi (fun x158 _ => ?_)
            refine lv_i2l hx hb d_La_law_317 rfl ?_
            refine lv_topl (fun y159 _ => ?_)
            refine lv_bipush (v := nI 32) hx hb d_La_law_318 (by decide +kernel) ?_
            refine lv_lshl hx hb d_La_law_320 rfl ?_
            refine lv_topl (fun y160 _ => ?_)
            refine lv_aload_n hx hb d_La_law_321 rfl (lv_at hl 1 rfl) ?_
            refine lv_iload hx hb d_La_law_322 (lv_at hl 5 rfl) ?_
            refine lv_iconst (v := nI 4) hx hb d_La_law_324 (by decide +kernel) ?_
            refine lv_iadd hx hb d_La_law_325 ?_
            refine aw_ti (nI_add (6 * t) 4) ?_
            refine va_sld hx hb hX hbl hbA hS (i := (nI ((6 * t) + 4))) (vp_in_nI (by omega) (by omega)) d_La_law_326 ?_
            refine lv_topi (fun x161 _ => ?_)
            refine lv_i2l hx hb d_La_law_327 rfl ?_
            refine lv_topl (fun y162 _ => ?_)
            refine lv_ldc2 (v := 4294967295) hx hb hown (hG _ gw_13_3) d_La_law_328 ?_
            refine lv_land hx hb d_La_law_331 ?_
            refine lv_topl (fun y163 _ => ?_)
            refine lv_lor hx hb d_La_law_332 ?_
            refine lv_topl (fun y164 _ => ?_)
            obtain ⟨_, _, _, he165⟩ := rd_M0 hSh
            refine va_callv (va_runV (As := [.int (nI j), .int (nI k), .long y164]) (rest := []) ⟨hx, hb, hml, hown, hG⟩ (k_Mo_modeXs l D g ad G G F N0 j k y164 hj (by omega) (by omega)) (aw_wV 3 hG gw_10_45 gw_10_42 gw_0_10 gw_10_43 gw_10_44 rfl rfl hd_Mo_mode ⟨Nat.le_of_ble_eq_true rfl, Nat.le_of_ble_eq_true rfl⟩) (aw_qV (va_recv hK hP rfl he165) hP hD hSh hU hS) rfl rfl hl.1 rfl (lv_room (Nat.le_of_ble_eq_true rfl)) d_La_law_333 ⟨by omega, by omega⟩) hS (fun _ _ h => h) (fun _ h => h) (fun u8 t8 H locs ht _ _ hB _ _ hS => ?_)
            obtain ⟨L, hP, hD, hSh⟩ := hB
            rw [ht] at hP
            clear ht
            refine lv_goto (tgt := 837) hx hb d_La_law_336 (by decide) ?_
            refine lv_iinc (k := 5) (v := nI (6 * t + 6)) hx hb d_La_law_837 hl rfl (aw_inc (6 * t) 6 6 (by decide +kernel)) (by decide) rfl (fun ls hl => ?_)
            have hl : lv_has ls 8 [(4, .int (nI (6 * t + 6))), (5, .int (nI 3)), (0, .ref b), (1, .ref (aw_r ad 0)), (2, .ref (aw_m ad 0)), (3, .ref (aw_o ad))] := hl
            refine lv_goto (tgt := 23) hx hb d_La_law_840 (by decide) ?_
            have hl := lv_sub hl (l' := [(0, .ref b), (1, .ref (aw_r ad 0)), (2, .ref (aw_m ad 0)), (3, .ref (aw_o ad)), (4, .int (nI (6 * t + 6)))]) [2, 3, 4, 5, 0] rfl
            refine W.widen (k := 85 + (t + 1)) (n := 1246 + 6 * (t + 1)) (by omega) (by omega) ?_
            exact ih (t + 1) G (nI 3) _ _ L ls (by omega) hP hD hSh hS (by first | exact hl | simpa [Nat.mul_add] using hl)
    · refine aw_ti (y := nI 3) (by rw [hs3]) ?_
      refine lv_tableIn (tgt := 339) (off := 299) hx hb d_La_law_40 (by decide +kernel) (by decide +kernel) (by decide +kernel) (by decide) ?_
      obtain ⟨c0, hc0⟩ : ∃ z : Int32, z = xs (6 * t + 1) := ⟨_, rfl⟩
      rcases aw_rng 4 (by decide) c0 with hc | ⟨j, hj, rfl⟩
      · refine lv_aload_n hx hb d_La_law_339 rfl (lv_at hl 1 rfl) ?_
        refine lv_aload_n hx hb d_La_law_340 rfl (lv_at hl 0 rfl) ?_
        refine lv_iload hx hb d_La_law_341 (lv_at hl 4 rfl) ?_
        refine lv_iconst (v := nI 1) hx hb d_La_law_343 (by decide +kernel) ?_
        refine lv_iadd hx hb d_La_law_344 ?_
        refine aw_ti (nI_add (6 * t) 1) ?_
        refine va_sld hx hb hX hbl hbA hS (i := (nI ((6 * t) + 1))) (vp_in_nI (by omega) (by omega)) d_La_law_345 ?_
        refine aw_ti (y := c0) (by rw [nI_clamp (by omega)]; exact hc0.symm) ?_
        refine va_calli (vx_runSW (As := [.ref (aw_r ad 0), .int c0]) (rest := []) ⟨hx, hb, hml, hown, hG⟩ (k_La_freeXc l hst D g ad G G F N0 c0 hc) (aw_wW 2 hG gw_5_41 gw_5_39 gw_0_0 gw_5_40 rfl rfl hd_La_free ⟨Nat.le_of_ble_eq_true rfl, Nat.le_of_ble_eq_true rfl⟩) (aw_qS hP hD hSh hU hS) rfl rfl hl.1 rfl (lv_room (Nat.le_of_ble_eq_true rfl)) d_La_law_346 ⟨by omega, by omega⟩) hS (fun _ _ h => h) (fun _ h => h) (fun x166 u8 t8 H locs ht _ hpx166 hB _ _ hS => ?_)
        obtain ⟨L, hP, hD, hSh⟩ := hB
        rw [ht] at hP
        clear ht
        subst hpx166
        refine lv_istore hx hb d_La_law_349 hl (by decide) rfl (fun ls hl => ?_)
        have hl : lv_has ls 8 [(5, .int (nI 1)), (0, .ref b), (1, .ref (aw_r ad 0)), (2, .ref (aw_m ad 0)), (3, .ref (aw_o ad)), (4, .int (nI (6 * t)))] := hl
        refine lv_aload_n hx hb d_La_law_351 rfl (lv_at hl 3 rfl) ?_
        refine lv_aload_n hx hb d_La_law_352 rfl (lv_at hl 1 rfl) ?_
        refine lv_iload hx hb d_La_law_353 (lv_at hl 5 rfl) ?_
        refine lv_iconst (v := nI 1) hx hb d_La_law_355 (by decide +kernel) ?_
        refine lv_iadd hx hb d_La_law_356 ?_
        refine aw_ti (nI_add (6 * t) 1) ?_
        refine va_sld hx hb hX hbl hbA hS (i := (nI ((6 * t) + 1))) (vp_in_nI (by omega) (by omega)) d_La_law_357 ?_
        refine aw_ti (y := c0) (by rw [nI_clamp (by omega)]; exact hc0.symm) ?_
        obtain ⟨_, _, _, he167⟩ := rd_M0 hSh
        refine va_callv (va_runV (As := [.int c0]) (rest := []) ⟨hx, hb, hml, hown, hG⟩ (k_Mo_freeXc l D g ad G G F N0 c0 hc) (aw_wV 1 hG gw_10_55 gw_10_52 gw_0_10 gw_10_53 gw_10_54 rfl rfl hd_Mo_free ⟨Nat.le_of_ble_eq_true rfl, Nat.le_of_ble_eq_true rfl⟩) (aw_qV (va_recv hK hP rfl he167) hP hD hSh hU hS) rfl rfl hl.1 rfl (lv_room (Nat.le_of_ble_eq_true rfl)) d_La_law_358 ⟨by omega, by omega⟩) hS (fun _ _ h => h) (fun _ h => h) (fun u8 t8 H locs ht _ _ hB _ _ hS => ?_)
        obtain ⟨L, hP, hD, hSh⟩ := hB
        rw [ht] at hP
        clear ht
        refine lv_goto (tgt := 837) hx hb d_La_law_361 (by decide) ?_
        refine lv_iinc (k := 5) (v := nI (6 * t + 6)) hx hb d_La_law_837 hl rfl (aw_inc (6 * t) 6 6 (by decide +kernel)) (by decide) rfl (fun ls hl => ?_)
        have hl : lv_has ls 8 [(4, .int (nI (6 * t + 6))), (5, .int (nI 1)), (0, .ref b), (1, .ref (aw_r ad 0)), (2, .ref (aw_m ad 0)), (3, .ref (aw_o ad))] := hl
        refine lv_goto (tgt := 23) hx hb d_La_law_840 (by decide) ?_
        have hl := lv_sub hl (l' := [(0, .ref b), (1, .ref (aw_r ad 0)), (2, .ref (aw_m ad 0)), (3, .ref (aw_o ad)), (4, .int (nI (6 * t + 6)))]) [2, 3, 4, 5, 0] rfl
        refine W.widen (k := 85 + (t + 1)) (n := 1246 + 6 * (t + 1)) (by omega) (by omega) ?_
        exact ih (t + 1) G (nI 1) _ _ L ls (by omega) hP hD hSh hS (by first | exact hl | simpa [Nat.mul_add] using hl)
      · have hgj := hSh.2.2.2.2.1 j hj
        refine lv_aload_n hx hb d_La_law_339 rfl (lv_at hl 1 rfl) ?_
        refine lv_aload_n hx hb d_La_law_340 rfl (lv_at hl 0 rfl) ?_
        refine lv_iload hx hb d_La_law_341 (lv_at hl 4 rfl) ?_
        refine lv_iconst (v := nI 1) hx hb d_La_law_343 (by decide +kernel) ?_
        refine lv_iadd hx hb d_La_law_344 ?_
        refine aw_ti (nI_add (6 * t) 1) ?_
        refine va_sld hx hb hX hbl hbA hS (i := (nI ((6 * t) + 1))) (vp_in_nI (by omega) (by omega)) d_La_law_345 ?_
        refine aw_ti (y := nI j) (by rw [nI_clamp (by omega)]; exact hc0.symm) ?_
        refine va_calli (vx_runSW (As := [.ref (aw_r ad 0), .int (nI j)]) (rest := []) ⟨hx, hb, hml, hown, hG⟩ (k_La_free1 l hst D g ad G G F N0 j hj) (aw_wW 2 hG gw_5_41 gw_5_39 gw_0_0 gw_5_40 rfl rfl hd_La_free ⟨Nat.le_of_ble_eq_true rfl, Nat.le_of_ble_eq_true rfl⟩) (aw_qS hP hD hSh hU hS) rfl rfl hl.1 rfl (lv_room (Nat.le_of_ble_eq_true rfl)) d_La_law_346 ⟨by omega, by omega⟩) hS (fun _ _ h => h) (fun _ h => h) (fun x168 u8 t8 H locs ht _ hpx168 hB _ _ hS => ?_)
        obtain ⟨L, hP, hD, hSh⟩ := hB
        rw [ht] at hP
        clear ht
        subst hpx168
        refine lv_istore hx hb d_La_law_349 hl (by decide) rfl (fun ls hl => ?_)
        have hl : lv_has ls 8 [(5, .int (nI 0)), (0, .ref b), (1, .ref (aw_r ad 0)), (2, .ref (aw_m ad 0)), (3, .ref (aw_o ad)), (4, .int (nI (6 * t)))] := hl
        refine lv_aload_n hx hb d_La_law_351 rfl (lv_at hl 3 rfl) ?_
        refine lv_aload_n hx hb d_La_law_352 rfl (lv_at hl 1 rfl) ?_
        refine lv_iload hx hb d_La_law_353 (lv_at hl 5 rfl) ?_
        refine lv_iconst (v := nI 1) hx hb d_La_law_355 (by decide +kernel) ?_
        refine lv_iadd hx hb d_La_law_356 ?_
        refine aw_ti (nI_add (6 * t) 1) ?_
        refine va_sld hx hb hX hbl hbA hS (i := (nI ((6 * t) + 1))) (vp_in_nI (by omega) (by omega)) d_La_law_357 ?_
        refine aw_ti (y := nI j) (by rw [nI_clamp (by omega)]; exact hc0.symm) ?_
        obtain ⟨_, _, _, he169⟩ := rd_M0 hSh
        refine va_callv (va_runV (As := [.int (nI j)]) (rest := []) ⟨hx, hb, hml, hown, hG⟩ (k_Mo_free1 l D g ad (aw_g1 G j 0) G F N0 j hj) (aw_wV 1 hG gw_10_55 gw_10_52 gw_0_10 gw_10_53 gw_10_54 rfl rfl hd_Mo_free ⟨Nat.le_of_ble_eq_true rfl, Nat.le_of_ble_eq_true rfl⟩) (aw_qV (va_recv hK hP rfl he169) hP hD hSh hU hS) rfl rfl hl.1 rfl (lv_room (Nat.le_of_ble_eq_true rfl)) d_La_law_358 ⟨by omega, by omega⟩) hS (fun _ _ h => h) (fun _ h => h) (fun u8 t8 H locs ht _ _ hB _ _ hS => ?_)
        obtain ⟨L, hP, hD, hSh⟩ := hB
        rw [ht] at hP
        clear ht
        refine lv_goto (tgt := 837) hx hb d_La_law_361 (by decide) ?_
        refine lv_iinc (k := 5) (v := nI (6 * t + 6)) hx hb d_La_law_837 hl rfl (aw_inc (6 * t) 6 6 (by decide +kernel)) (by decide) rfl (fun ls hl => ?_)
        have hl : lv_has ls 8 [(4, .int (nI (6 * t + 6))), (5, .int (nI 0)), (0, .ref b), (1, .ref (aw_r ad 0)), (2, .ref (aw_m ad 0)), (3, .ref (aw_o ad))] := hl
        refine lv_goto (tgt := 23) hx hb d_La_law_840 (by decide) ?_
        have hl := lv_sub hl (l' := [(0, .ref b), (1, .ref (aw_r ad 0)), (2, .ref (aw_m ad 0)), (3, .ref (aw_o ad)), (4, .int (nI (6 * t + 6)))]) [2, 3, 4, 5, 0] rfl
        refine W.widen (k := 85 + (t + 1)) (n := 1246 + 6 * (t + 1)) (by omega) (by omega) ?_
        exact ih (t + 1) (aw_g1 G j 0) (nI 0) _ _ L ls (by omega) hP hD hSh hS (by first | exact hl | simpa [Nat.mul_add] using hl)
    · refine aw_ti (y := nI 4) (by rw [hs3]) ?_
      refine lv_tableIn (tgt := 364) (off := 324) hx hb d_La_law_40 (by decide +kernel) (by decide +kernel) (by decide +kernel) (by decide) ?_
      obtain ⟨c0, hc0⟩ : ∃ z : Int32, z = xs (6 * t + 1) := ⟨_, rfl⟩
      rcases aw_rng 4 (by decide) c0 with hc | ⟨j, hj, rfl⟩
      · refine lv_aload_n hx hb d_La_law_364 rfl (lv_at hl 1 rfl) ?_
        refine lv_aload_n hx hb d_La_law_365 rfl (lv_at hl 0 rfl) ?_
        refine lv_iload hx hb d_La_law_366 (lv_at hl 4 rfl) ?_
        refine lv_iconst (v := nI 1) hx hb d_La_law_368 (by decide +kernel) ?_
        refine lv_iadd hx hb d_La_law_369 ?_
        refine aw_ti (nI_add (6 * t) 1) ?_
        refine va_sld hx hb hX hbl hbA hS (i := (nI ((6 * t) + 1))) (vp_in_nI (by omega) (by omega)) d_La_law_370 ?_
        refine aw_ti (y := c0) (by rw [nI_clamp (by omega)]; exact hc0.symm) ?_
        refine lv_aload_n hx hb d_La_law_371 rfl (lv_at hl 3 rfl) ?_
        refine va_calli (vx_runSW (As := [.ref (aw_r ad 0), .int c0, .ref (aw_o ad)]) (rest := []) ⟨hx, hb, hml, hown, hG⟩ (k_La_stageXc l hst D g ad G G F N0 c0 hc) (aw_wW 3 hG gw_5_48 gw_5_46 gw_0_0 gw_5_47 rfl rfl hd_La_stage ⟨Nat.le_of_ble_eq_true rfl, Nat.le_of_ble_eq_true rfl⟩) (aw_qS hP hD hSh hU hS) rfl rfl hl.1 rfl (lv_room (Nat.le_of_ble_eq_true rfl)) d_La_law_372 ⟨by omega, by omega⟩) hS (fun _ _ h => h) (fun _ h => h) (fun x170 u8 t8 H locs ht _ hpx170 hB _ _ hS => ?_)
        obtain ⟨L, hP, hD, hSh⟩ := hB
        rw [ht] at hP
        clear ht
        subst hpx170
        refine lv_istore hx hb d_La_law_375 hl (by decide) rfl (fun ls hl => ?_)
        have hl : lv_has ls 8 [(5, .int (nI 1)), (0, .ref b), (1, .ref (aw_r ad 0)), (2, .ref (aw_m ad 0)), (3, .ref (aw_o ad)), (4, .int (nI (6 * t)))] := hl
        refine lv_aload_n hx hb d_La_law_377 rfl (lv_at hl 3 rfl) ?_
        refine lv_aload_n hx hb d_La_law_378 rfl (lv_at hl 1 rfl) ?_
        refine lv_iload hx hb d_La_law_379 (lv_at hl 5 rfl) ?_
        refine lv_iconst (v := nI 1) hx hb d_La_law_381 (by decide +kernel) ?_
        refine lv_iadd hx hb d_La_law_382 ?_
        refine aw_ti (nI_add (6 * t) 1) ?_
        refine va_sld hx hb hX hbl hbA hS (i := (nI ((6 * t) + 1))) (vp_in_nI (by omega) (by omega)) d_La_law_383 ?_
        refine aw_ti (y := c0) (by rw [nI_clamp (by omega)]; exact hc0.symm) ?_
        obtain ⟨_, _, _, he171⟩ := rd_M0 hSh
        refine va_calli (va_runV (As := [.int c0]) (rest := []) ⟨hx, hb, hml, hown, hG⟩ (k_Mo_stageXc l D g ad G G F N0 c0 hc) (aw_wV 1 hG gw_10_59 gw_10_56 gw_0_10 gw_10_57 gw_10_58 rfl rfl hd_Mo_stage ⟨Nat.le_of_ble_eq_true rfl, Nat.le_of_ble_eq_true rfl⟩) (aw_qV (va_recv hK hP rfl he171) hP hD hSh hU hS) rfl rfl hl.1 rfl (lv_room (Nat.le_of_ble_eq_true rfl)) d_La_law_384 ⟨by omega, by omega⟩) hS (fun _ _ h => h) (fun _ h => h) (fun x172 u8 t8 H locs ht _ _ hB _ _ hS => ?_)
        obtain ⟨L, hP, hD, hSh⟩ := hB
        rw [ht] at hP
        clear ht
        refine lv_istore hx hb d_La_law_387 hl (by decide) rfl (fun ls hl => ?_)
        have hl : lv_has ls 8 [(6, .int x172), (5, .int (nI 1)), (0, .ref b), (1, .ref (aw_r ad 0)), (2, .ref (aw_m ad 0)), (3, .ref (aw_o ad)), (4, .int (nI (6 * t)))] := hl
        refine lv_goto (tgt := 837) hx hb d_La_law_389 (by decide) ?_
        refine lv_iinc (k := 6) (v := nI (6 * t + 6)) hx hb d_La_law_837 hl rfl (aw_inc (6 * t) 6 6 (by decide +kernel)) (by decide) rfl (fun ls hl => ?_)
        have hl : lv_has ls 8 [(4, .int (nI (6 * t + 6))), (6, .int x172), (5, .int (nI 1)), (0, .ref b), (1, .ref (aw_r ad 0)), (2, .ref (aw_m ad 0)), (3, .ref (aw_o ad))] := hl
        refine lv_goto (tgt := 23) hx hb d_La_law_840 (by decide) ?_
        have hl := lv_sub hl (l' := [(0, .ref b), (1, .ref (aw_r ad 0)), (2, .ref (aw_m ad 0)), (3, .ref (aw_o ad)), (4, .int (nI (6 * t + 6)))]) [3, 4, 5, 6, 0] rfl
        refine W.widen (k := 85 + (t + 1)) (n := 1246 + 6 * (t + 1)) (by omega) (by omega) ?_
        exact ih (t + 1) G (nI 1) _ _ L ls (by omega) hP hD hSh hS (by first | exact hl | simpa [Nat.mul_add] using hl)
      · have hgj := hSh.2.2.2.2.1 j hj
        refine lv_aload_n hx hb d_La_law_364 rfl (lv_at hl 1 rfl) ?_
        refine lv_aload_n hx hb d_La_law_365 rfl (lv_at hl 0 rfl) ?_
        refine lv_iload hx hb d_La_law_366 (lv_at hl 4 rfl) ?_
        refine lv_iconst (v := nI 1) hx hb d_La_law_368 (by decide +kernel) ?_
        refine lv_iadd hx hb d_La_law_369 ?_
        refine aw_ti (nI_add (6 * t) 1) ?_
        refine va_sld hx hb hX hbl hbA hS (i := (nI ((6 * t) + 1))) (vp_in_nI (by omega) (by omega)) d_La_law_370 ?_
        refine aw_ti (y := nI j) (by rw [nI_clamp (by omega)]; exact hc0.symm) ?_
        refine lv_aload_n hx hb d_La_law_371 rfl (lv_at hl 3 rfl) ?_
        refine va_calli (vx_runSW (As := [.ref (aw_r ad 0), .int (nI j), .ref (aw_o ad)]) (rest := []) ⟨hx, hb, hml, hown, hG⟩ (k_La_stage1 l hst D g ad G G F N0 j hj) (aw_wW 3 hG gw_5_48 gw_5_46 gw_0_0 gw_5_47 rfl rfl hd_La_stage ⟨Nat.le_of_ble_eq_true rfl, Nat.le_of_ble_eq_true rfl⟩) (aw_qS hP hD hSh hU hS) rfl rfl hl.1 rfl (lv_room (Nat.le_of_ble_eq_true rfl)) d_La_law_372 ⟨by omega, by omega⟩) hS (fun _ _ h => h) (fun _ h => h) (fun x173 u8 t8 H locs ht _ hpx173 hB _ _ hS => ?_)
        obtain ⟨L, hP, hD, hSh⟩ := hB
        rw [ht] at hP
        clear ht
        subst hpx173
        refine lv_istore hx hb d_La_law_375 hl (by decide) rfl (fun ls hl => ?_)
        have hl : lv_has ls 8 [(5, .int (nI 0)), (0, .ref b), (1, .ref (aw_r ad 0)), (2, .ref (aw_m ad 0)), (3, .ref (aw_o ad)), (4, .int (nI (6 * t)))] := hl
        refine lv_aload_n hx hb d_La_law_377 rfl (lv_at hl 3 rfl) ?_
        refine lv_aload_n hx hb d_La_law_378 rfl (lv_at hl 1 rfl) ?_
        refine lv_iload hx hb d_La_law_379 (lv_at hl 5 rfl) ?_
        refine lv_iconst (v := nI 1) hx hb d_La_law_381 (by decide +kernel) ?_
        refine lv_iadd hx hb d_La_law_382 ?_
        refine aw_ti (nI_add (6 * t) 1) ?_
        refine va_sld hx hb hX hbl hbA hS (i := (nI ((6 * t) + 1))) (vp_in_nI (by omega) (by omega)) d_La_law_383 ?_
        refine aw_ti (y := nI j) (by rw [nI_clamp (by omega)]; exact hc0.symm) ?_
        obtain ⟨_, _, _, he174⟩ := rd_M0 hSh
        refine va_calli (va_runV (As := [.int (nI j)]) (rest := []) ⟨hx, hb, hml, hown, hG⟩ (k_Mo_stage1 l D g ad G G F N0 j hj) (aw_wV 1 hG gw_10_59 gw_10_56 gw_0_10 gw_10_57 gw_10_58 rfl rfl hd_Mo_stage ⟨Nat.le_of_ble_eq_true rfl, Nat.le_of_ble_eq_true rfl⟩) (aw_qV (va_recv hK hP rfl he174) hP hD hSh hU hS) rfl rfl hl.1 rfl (lv_room (Nat.le_of_ble_eq_true rfl)) d_La_law_384 ⟨by omega, by omega⟩) hS (fun _ _ h => h) (fun _ h => h) (fun x175 u8 t8 H locs ht _ hpx175 hB _ _ hS => ?_)
        obtain ⟨L, hP, hD, hSh⟩ := hB
        rw [ht] at hP
        clear ht
        subst hpx175
        refine lv_istore hx hb d_La_law_387 hl (by decide) rfl (fun ls hl => ?_)
        have hl : lv_has ls 8 [(6, .int (nI ((G j).1))), (5, .int (nI 0)), (0, .ref b), (1, .ref (aw_r ad 0)), (2, .ref (aw_m ad 0)), (3, .ref (aw_o ad)), (4, .int (nI (6 * t)))] := hl
        refine lv_goto (tgt := 837) hx hb d_La_law_389 (by decide) ?_
        refine lv_iinc (k := 6) (v := nI (6 * t + 6)) hx hb d_La_law_837 hl rfl (aw_inc (6 * t) 6 6 (by decide +kernel)) (by decide) rfl (fun ls hl => ?_)
        have hl : lv_has ls 8 [(4, .int (nI (6 * t + 6))), (6, .int (nI ((G j).1))), (5, .int (nI 0)), (0, .ref b), (1, .ref (aw_r ad 0)), (2, .ref (aw_m ad 0)), (3, .ref (aw_o ad))] := hl
        refine lv_goto (tgt := 23) hx hb d_La_law_840 (by decide) ?_
        have hl := lv_sub hl (l' := [(0, .ref b), (1, .ref (aw_r ad 0)), (2, .ref (aw_m ad 0)), (3, .ref (aw_o ad)), (4, .int (nI (6 * t + 6)))]) [3, 4, 5, 6, 0] rfl
        refine W.widen (k := 85 + (t + 1)) (n := 1246 + 6 * (t + 1)) (by omega) (by omega) ?_
        exact ih (t + 1) G (nI 0) _ _ L ls (by omega) hP hD hSh hS (by first | exact hl | simpa [Nat.mul_add] using hl)
    · refine aw_ti (y := nI 5) (by rw [hs3]) ?_
      refine lv_tableIn (tgt := 392) (off := 352) hx hb d_La_law_40 (by decide +kernel) (by decide +kernel) (by decide +kernel) (by decide) ?_
      refine lv_aload_n hx hb d_La_law_392 rfl (lv_at hl 1 rfl) ?_
      refine lv_aload_n hx hb d_La_law_393 rfl (lv_at hl 0 rfl) ?_
      refine lv_iload hx hb d_La_law_394 (lv_at hl 4 rfl) ?_
      refine lv_iconst (v := nI 1) hx hb d_La_law_396 (by decide +kernel) ?_
      refine lv_iadd hx hb d_La_law_397 ?_
      refine aw_ti (nI_add (6 * t) 1) ?_
      refine va_sld hx hb hX hbl hbA hS (i := (nI ((6 * t) + 1))) (vp_in_nI (by omega) (by omega)) d_La_law_398 ?_
      refine lv_topi (fun x176 _ => ?_)
      refine lv_aload_n hx hb d_La_law_399 rfl (lv_at hl 0 rfl) ?_
      refine lv_iload hx hb d_La_law_400 (lv_at hl 4 rfl) ?_
      refine lv_iconst (v := nI 2) hx hb d_La_law_402 (by decide +kernel) ?_
      refine lv_iadd hx hb d_La_law_403 ?_
      refine aw_ti (nI_add (6 * t) 2) ?_
      refine va_sld hx hb hX hbl hbA hS (i := (nI ((6 * t) + 2))) (vp_in_nI (by omega) (by omega)) d_La_law_404 ?_
      refine lv_topi (fun x177 _ => ?_)
      have hj178 : ∀ x179 : Int32, W p l e room_1 s m #[Value.ref b] below meth c H locs (85 + t) (1246 + 6 * t) (lw_Z below #[Value.ref b] s) (F0 m 413 ls [.int x179, .int x176, .ref (aw_r ad 0)]) := by
        intro x179
        refine lv_aload_n hx hb d_La_law_413 rfl (lv_at hl 0 rfl) ?_
        refine lv_iload hx hb d_La_law_414 (lv_at hl 4 rfl) ?_
        refine lv_iconst (v := nI 3) hx hb d_La_law_416 (by decide +kernel) ?_
        refine lv_iadd hx hb d_La_law_417 ?_
        refine aw_ti (nI_add (6 * t) 3) ?_
        refine va_sld hx hb hX hbl hbA hS (i := (nI ((6 * t) + 3))) (vp_in_nI (by omega) (by omega)) d_La_law_418 ?_
        refine lv_topi (fun x180 _ => ?_)
        refine lv_i2l hx hb d_La_law_419 rfl ?_
        refine lv_topl (fun y181 _ => ?_)
        refine lv_bipush (v := nI 32) hx hb d_La_law_420 (by decide +kernel) ?_
        refine lv_lshl hx hb d_La_law_422 rfl ?_
        refine lv_topl (fun y182 _ => ?_)
        refine lv_aload_n hx hb d_La_law_423 rfl (lv_at hl 0 rfl) ?_
        refine lv_iload hx hb d_La_law_424 (lv_at hl 4 rfl) ?_
        refine lv_iconst (v := nI 4) hx hb d_La_law_426 (by decide +kernel) ?_
        refine lv_iadd hx hb d_La_law_427 ?_
        refine aw_ti (nI_add (6 * t) 4) ?_
        refine va_sld hx hb hX hbl hbA hS (i := (nI ((6 * t) + 4))) (vp_in_nI (by omega) (by omega)) d_La_law_428 ?_
        refine lv_topi (fun x183 _ => ?_)
        refine lv_i2l hx hb d_La_law_429 rfl ?_
        refine lv_topl (fun y184 _ => ?_)
        refine lv_ldc2 (v := 4294967295) hx hb hown (hG _ gw_13_3) d_La_law_430 ?_
        refine lv_land hx hb d_La_law_433 ?_
        refine lv_topl (fun y185 _ => ?_)
        refine lv_lor hx hb d_La_law_434 ?_
        refine lv_topl (fun y186 _ => ?_)
        refine lv_aload_n hx hb d_La_law_435 rfl (lv_at hl 3 rfl) ?_
        refine va_calli (vx_runSW (As := [.ref (aw_r ad 0), .int x176, .int x179, .long y186, .ref (aw_o ad)]) (rest := []) ⟨hx, hb, hml, hown, hG⟩ (k_La_blockJ l hst D g ad G G F N0 x176 x179 y186 hSh.2.2.2.2.1) (aw_wW 5 hG gw_5_55 gw_5_53 gw_0_0 gw_5_54 rfl rfl hd_La_block ⟨Nat.le_of_ble_eq_true rfl, Nat.le_of_ble_eq_true rfl⟩) (aw_qS hP hD hSh hU hS) rfl rfl hl.1 rfl (lv_room (Nat.le_of_ble_eq_true rfl)) d_La_law_436 ⟨by omega, by omega⟩) hS (fun _ _ h => h) (fun _ h => h) (fun x187 u8 t8 H locs ht _ _ hB _ _ hS => ?_)
        obtain ⟨L, hP, hD, hSh⟩ := hB
        rw [ht] at hP
        clear ht
        refine lv_istore hx hb d_La_law_439 hl (by decide) rfl (fun ls hl => ?_)
        have hl : lv_has ls 8 [(5, .int x187), (0, .ref b), (1, .ref (aw_r ad 0)), (2, .ref (aw_m ad 0)), (3, .ref (aw_o ad)), (4, .int (nI (6 * t)))] := hl
        refine lv_aload_n hx hb d_La_law_441 rfl (lv_at hl 3 rfl) ?_
        refine lv_aload_n hx hb d_La_law_442 rfl (lv_at hl 1 rfl) ?_
        refine lv_iload hx hb d_La_law_443 (lv_at hl 5 rfl) ?_
        refine lv_iconst (v := nI 1) hx hb d_La_law_445 (by decide +kernel) ?_
        refine lv_iadd hx hb d_La_law_446 ?_
        refine aw_ti (nI_add (6 * t) 1) ?_
        refine va_sld hx hb hX hbl hbA hS (i := (nI ((6 * t) + 1))) (vp_in_nI (by omega) (by omega)) d_La_law_447 ?_
        refine lv_topi (fun x188 _ => ?_)
        refine lv_aload_n hx hb d_La_law_448 rfl (lv_at hl 1 rfl) ?_
        refine lv_iload hx hb d_La_law_449 (lv_at hl 5 rfl) ?_
        refine lv_iconst (v := nI 2) hx hb d_La_law_451 (by decide +kernel) ?_
        refine lv_iadd hx hb d_La_law_452 ?_
        refine aw_ti (nI_add (6 * t) 2) ?_
        refine va_sld hx hb hX hbl hbA hS (i := (nI ((6 * t) + 2))) (vp_in_nI (by omega) (by omega)) d_La_law_453 ?_
        refine lv_topi (fun x189 _ => ?_)
        have hj190 : ∀ x191 : Int32, W p l e room_1 s m #[Value.ref b] below meth c H locs ((85 + t) + 1) ((1246 + 6 * t) + 6) (lw_Z below #[Value.ref b] s) (F0 m 462 ls [.int x191, .int x188, .ref (aw_m ad 0)]) := by
          intro x191
          refine lv_aload_n hx hb d_La_law_462 rfl (lv_at hl 1 rfl) ?_
          refine lv_iload hx hb d_La_law_463 (lv_at hl 5 rfl) ?_
          refine lv_iconst (v := nI 3) hx hb d_La_law_465 (by decide +kernel) ?_
          refine lv_iadd hx hb d_La_law_466 ?_
          refine aw_ti (nI_add (6 * t) 3) ?_
          refine va_sld hx hb hX hbl hbA hS (i := (nI ((6 * t) + 3))) (vp_in_nI (by omega) (by omega)) d_La_law_467 ?_
          refine lv_topi (fun x192 _ => ?_)
          refine lv_i2l hx hb d_La_law_468 rfl ?_
          refine lv_topl (fun y193 _ => ?_)
          refine lv_bipush (v := nI 32) hx hb d_La_law_469 (by decide +kernel) ?_
          refine lv_lshl hx hb d_La_law_471 rfl ?_
          refine lv_topl (fun y194 _ => ?_)
          refine lv_aload_n hx hb d_La_law_472 rfl (lv_at hl 1 rfl) ?_
          refine lv_iload hx hb d_La_law_473 (lv_at hl 5 rfl) ?_
          refine lv_iconst (v := nI 4) hx hb d_La_law_475 (by decide +kernel) ?_
          refine lv_iadd hx hb d_La_law_476 ?_
          refine aw_ti (nI_add (6 * t) 4) ?_
          refine va_sld hx hb hX hbl hbA hS (i := (nI ((6 * t) + 4))) (vp_in_nI (by omega) (by omega)) d_La_law_477 ?_
          refine lv_topi (fun x195 _ => ?_)
          refine lv_i2l hx hb d_La_law_478 rfl ?_
          refine lv_topl (fun y196 _ => ?_)
          refine lv_ldc2 (v := 4294967295) hx hb hown (hG _ gw_13_3) d_La_law_479 ?_
          refine lv_land hx hb d_La_law_482 ?_
          refine lv_topl (fun y197 _ => ?_)
          refine lv_lor hx hb d_La_law_483 ?_
          refine lv_topl (fun y198 _ => ?_)
          obtain ⟨_, _, _, he199⟩ := rd_M0 hSh
          refine va_calll (va_runV (As := [.int x188, .int x191, .long y198]) (rest := []) ⟨hx, hb, hml, hown, hG⟩ (k_Mo_blockJ l D g ad G G F N0 x188 x191 y198 hSh.2.2.2.2.2) (aw_wV 3 hG gw_11_3 gw_11_0 gw_0_10 gw_11_1 gw_11_2 rfl rfl hd_Mo_block ⟨Nat.le_of_ble_eq_true rfl, Nat.le_of_ble_eq_true rfl⟩) (aw_qV (va_recv hK hP rfl he199) hP hD hSh hU hS) rfl rfl hl.1 rfl (lv_room (Nat.le_of_ble_eq_true rfl)) d_La_law_484 ⟨by omega, by omega⟩) hS (fun _ _ h => h) (fun _ h => h) (fun y200 u8 t8 H locs ht _ _ hB _ _ hS => ?_)
          obtain ⟨F201, L, hP, hD, hSh⟩ := hB
          rw [ht] at hP
          clear ht
          refine lv_lstore hx hb d_La_law_487 hl (by decide) rfl (fun ls hl => ?_)
          have hl : lv_has ls 8 [(6, .long y200), (5, .int x187), (0, .ref b), (1, .ref (aw_r ad 0)), (2, .ref (aw_m ad 0)), (3, .ref (aw_o ad)), (4, .int (nI (6 * t)))] := hl
          refine lv_goto (tgt := 837) hx hb d_La_law_489 (by decide) ?_
          refine lv_iinc (k := 6) (v := nI (6 * t + 6)) hx hb d_La_law_837 hl rfl (aw_inc (6 * t) 6 6 (by decide +kernel)) (by decide) rfl (fun ls hl => ?_)
          have hl : lv_has ls 8 [(4, .int (nI (6 * t + 6))), (6, .long y200), (5, .int x187), (0, .ref b), (1, .ref (aw_r ad 0)), (2, .ref (aw_m ad 0)), (3, .ref (aw_o ad))] := hl
          refine lv_goto (tgt := 23) hx hb d_La_law_840 (by decide) ?_
          have hl := lv_sub hl (l' := [(0, .ref b), (1, .ref (aw_r ad 0)), (2, .ref (aw_m ad 0)), (3, .ref (aw_o ad)), (4, .int (nI (6 * t + 6)))]) [3, 4, 5, 6, 0] rfl
          refine W.widen (k := 85 + (t + 1)) (n := 1246 + 6 * (t + 1)) (by omega) (by omega) ?_
          exact ih (t + 1) G F201 _ _ L ls (by omega) hP hD hSh hS (by first | exact hl | simpa [Nat.mul_add] using hl)
        refine lv_if_eq (tgt := 461) hx hb d_La_law_454 (by decide) (fun _ => ?_) (fun _ => ?_)
        · refine lv_iconst (v := nI 0) hx hb d_La_law_461 (by decide +kernel) ?_
          exact hj190 _
        · refine lv_iconst (v := nI 1) hx hb d_La_law_457 (by decide +kernel) ?_
          refine lv_goto (tgt := 462) hx hb d_La_law_458 (by decide) ?_
          exact hj190 _
      refine lv_if_eq (tgt := 412) hx hb d_La_law_405 (by decide) (fun _ => ?_) (fun _ => ?_)
      · refine lv_iconst (v := nI 0) hx hb d_La_law_412 (by decide +kernel) ?_
        exact hj178 _
      · refine lv_iconst (v := nI 1) hx hb d_La_law_408 (by decide +kernel) ?_
        refine lv_goto (tgt := 413) hx hb d_La_law_409 (by decide) ?_
        exact hj178 _
    · refine aw_ti (y := nI 6) (by rw [hs3]) ?_
      refine lv_tableIn (tgt := 492) (off := 452) hx hb d_La_law_40 (by decide +kernel) (by decide +kernel) (by decide +kernel) (by decide) ?_
      refine lv_aload_n hx hb d_La_law_492 rfl (lv_at hl 1 rfl) ?_
      refine lv_aload_n hx hb d_La_law_493 rfl (lv_at hl 0 rfl) ?_
      refine lv_iload hx hb d_La_law_494 (lv_at hl 4 rfl) ?_
      refine lv_iconst (v := nI 1) hx hb d_La_law_496 (by decide +kernel) ?_
      refine lv_iadd hx hb d_La_law_497 ?_
      refine aw_ti (nI_add (6 * t) 1) ?_
      refine va_sld hx hb hX hbl hbA hS (i := (nI ((6 * t) + 1))) (vp_in_nI (by omega) (by omega)) d_La_law_498 ?_
      refine lv_topi (fun x202 _ => ?_)
      refine lv_aload_n hx hb d_La_law_499 rfl (lv_at hl 0 rfl) ?_
      refine lv_iload hx hb d_La_law_500 (lv_at hl 4 rfl) ?_
      refine lv_iconst (v := nI 2) hx hb d_La_law_502 (by decide +kernel) ?_
      refine lv_iadd hx hb d_La_law_503 ?_
      refine aw_ti (nI_add (6 * t) 2) ?_
      refine va_sld hx hb hX hbl hbA hS (i := (nI ((6 * t) + 2))) (vp_in_nI (by omega) (by omega)) d_La_law_504 ?_
      refine lv_topi (fun x203 _ => ?_)
      refine lv_aload_n hx hb d_La_law_505 rfl (lv_at hl 3 rfl) ?_
      refine va_calli (vx_runSW (As := [.ref (aw_r ad 0), .int x202, .int x203, .ref (aw_o ad)]) (rest := []) ⟨hx, hb, hml, hown, hG⟩ (k_La_wordJ l hst D g ad G G F N0 x202 x203 hSh.2.2.2.2.1) (aw_wW 4 hG gw_7_9 gw_7_7 gw_0_0 gw_7_8 rfl rfl hd_La_word ⟨Nat.le_of_ble_eq_true rfl, Nat.le_of_ble_eq_true rfl⟩) (aw_qS hP hD hSh hU hS) rfl rfl hl.1 rfl (lv_room (Nat.le_of_ble_eq_true rfl)) d_La_law_506 ⟨by omega, by omega⟩) hS (fun _ _ h => h) (fun _ h => h) (fun x204 u8 t8 H locs ht _ _ hB _ _ hS => ?_)
      obtain ⟨L, hP, hD, hSh⟩ := hB
      rw [ht] at hP
      clear ht
      refine lv_istore hx hb d_La_law_509 hl (by decide) rfl (fun ls hl => ?_)
      have hl : lv_has ls 8 [(5, .int x204), (0, .ref b), (1, .ref (aw_r ad 0)), (2, .ref (aw_m ad 0)), (3, .ref (aw_o ad)), (4, .int (nI (6 * t)))] := hl
      refine lv_aload_n hx hb d_La_law_511 rfl (lv_at hl 3 rfl) ?_
      refine lv_aload_n hx hb d_La_law_512 rfl (lv_at hl 1 rfl) ?_
      refine lv_iload hx hb d_La_law_513 (lv_at hl 5 rfl) ?_
      refine lv_iconst (v := nI 1) hx hb d_La_law_515 (by decide +kernel) ?_
      refine lv_iadd hx hb d_La_law_516 ?_
      refine aw_ti (nI_add (6 * t) 1) ?_
      refine va_sld hx hb hX hbl hbA hS (i := (nI ((6 * t) + 1))) (vp_in_nI (by omega) (by omega)) d_La_law_517 ?_
      refine lv_topi (fun x205 _ => ?_)
      refine lv_aload_n hx hb d_La_law_518 rfl (lv_at hl 1 rfl) ?_
      refine lv_iload hx hb d_La_law_519 (lv_at hl 5 rfl) ?_
      refine lv_iconst (v := nI 2) hx hb d_La_law_521 (by decide +kernel) ?_
      refine lv_iadd hx hb d_La_law_522 ?_
      refine aw_ti (nI_add (6 * t) 2) ?_
      refine va_sld hx hb hX hbl hbA hS (i := (nI ((6 * t) + 2))) (vp_in_nI (by omega) (by omega)) d_La_law_523 ?_
      refine lv_topi (fun x206 _ => ?_)
      obtain ⟨_, _, _, he207⟩ := rd_M0 hSh
      refine va_calli (va_runV (As := [.int x205, .int x206]) (rest := []) ⟨hx, hb, hml, hown, hG⟩ (k_Mo_wordJ l D g ad G G F N0 x205 x206 hSh.2.2.2.2.2) (aw_wV 2 hG gw_12_14 gw_12_11 gw_0_10 gw_12_12 gw_12_13 rfl rfl hd_Mo_word ⟨Nat.le_of_ble_eq_true rfl, Nat.le_of_ble_eq_true rfl⟩) (aw_qV (va_recv hK hP rfl he207) hP hD hSh hU hS) rfl rfl hl.1 rfl (lv_room (Nat.le_of_ble_eq_true rfl)) d_La_law_524 ⟨by omega, by omega⟩) hS (fun _ _ h => h) (fun _ h => h) (fun x208 u8 t8 H locs ht _ _ hB _ _ hS => ?_)
      obtain ⟨F209, L, hP, hD, hSh⟩ := hB
      rw [ht] at hP
      clear ht
      refine lv_istore hx hb d_La_law_527 hl (by decide) rfl (fun ls hl => ?_)
      have hl : lv_has ls 8 [(6, .int x208), (5, .int x204), (0, .ref b), (1, .ref (aw_r ad 0)), (2, .ref (aw_m ad 0)), (3, .ref (aw_o ad)), (4, .int (nI (6 * t)))] := hl
      refine lv_goto (tgt := 837) hx hb d_La_law_529 (by decide) ?_
      refine lv_iinc (k := 6) (v := nI (6 * t + 6)) hx hb d_La_law_837 hl rfl (aw_inc (6 * t) 6 6 (by decide +kernel)) (by decide) rfl (fun ls hl => ?_)
      have hl : lv_has ls 8 [(4, .int (nI (6 * t + 6))), (6, .int x208), (5, .int x204), (0, .ref b), (1, .ref (aw_r ad 0)), (2, .ref (aw_m ad 0)), (3, .ref (aw_o ad))] := hl
      refine lv_goto (tgt := 23) hx hb d_La_law_840 (by decide) ?_
      have hl := lv_sub hl (l' := [(0, .ref b), (1, .ref (aw_r ad 0)), (2, .ref (aw_m ad 0)), (3, .ref (aw_o ad)), (4, .int (nI (6 * t + 6)))]) [3, 4, 5, 6, 0] rfl
      refine W.widen (k := 85 + (t + 1)) (n := 1246 + 6 * (t + 1)) (by omega) (by omega) ?_
      exact ih (t + 1) G F209 _ _ L ls (by omega) hP hD hSh hS (by first | exact hl | simpa [Nat.mul_add] using hl)
    · refine aw_ti (y := nI 7) (by rw [hs3]) ?_
      refine lv_tableIn (tgt := 532) (off := 492) hx hb d_La_law_40 (by decide +kernel) (by decide +kernel) (by decide +kernel) (by decide) ?_
      obtain ⟨p0, hp0⟩ : ∃ z : Int32, z = xs (6 * t + 1) := ⟨_, rfl⟩
      rcases aw_rng 64 (by decide) p0 with hc | ⟨k, hk, rfl⟩
      · refine lv_aload_n hx hb d_La_law_532 rfl (lv_at hl 1 rfl) ?_
        refine lv_aload_n hx hb d_La_law_533 rfl (lv_at hl 0 rfl) ?_
        refine lv_iload hx hb d_La_law_534 (lv_at hl 4 rfl) ?_
        refine lv_iconst (v := nI 1) hx hb d_La_law_536 (by decide +kernel) ?_
        refine lv_iadd hx hb d_La_law_537 ?_
        refine aw_ti (nI_add (6 * t) 1) ?_
        refine va_sld hx hb hX hbl hbA hS (i := (nI ((6 * t) + 1))) (vp_in_nI (by omega) (by omega)) d_La_law_538 ?_
        refine aw_ti (y := p0) (by rw [nI_clamp (by omega)]; exact hp0.symm) ?_
        refine lv_aload_n hx hb d_La_law_539 rfl (lv_at hl 0 rfl) ?_
        refine lv_iload hx hb d_La_law_540 (lv_at hl 4 rfl) ?_
        refine lv_iconst (v := nI 2) hx hb d_La_law_542 (by decide +kernel) ?_
        refine lv_iadd hx hb d_La_law_543 ?_
        refine aw_ti (nI_add (6 * t) 2) ?_
        refine va_sld hx hb hX hbl hbA hS (i := (nI ((6 * t) + 2))) (vp_in_nI (by omega) (by omega)) d_La_law_544 ?_
        refine lv_topi (fun x210 _ => ?_)
        refine va_calli (vx_runSW (As := [.ref (aw_r ad 0), .int p0, .int x210]) (rest := []) ⟨hx, hb, hml, hown, hG⟩ (k_La_putX l hst D g ad G G F N0 p0 x210 hc) (aw_wW 3 hG gw_7_25 gw_7_23 gw_0_0 gw_7_24 rfl rfl hd_La_put ⟨Nat.le_of_ble_eq_true rfl, Nat.le_of_ble_eq_true rfl⟩) (aw_qS hP hD hSh hU hS) rfl rfl hl.1 rfl (lv_room (Nat.le_of_ble_eq_true rfl)) d_La_law_545 ⟨by omega, by omega⟩) hS (fun _ _ h => h) (fun _ h => h) (fun x211 u8 t8 H locs ht _ hpx211 hB _ _ hS => ?_)
        obtain ⟨L, hP, hD, hSh⟩ := hB
        rw [ht] at hP
        clear ht
        subst hpx211
        refine lv_istore hx hb d_La_law_548 hl (by decide) rfl (fun ls hl => ?_)
        have hl : lv_has ls 8 [(5, .int (nI 1)), (0, .ref b), (1, .ref (aw_r ad 0)), (2, .ref (aw_m ad 0)), (3, .ref (aw_o ad)), (4, .int (nI (6 * t)))] := hl
        refine lv_aload_n hx hb d_La_law_550 rfl (lv_at hl 3 rfl) ?_
        refine lv_aload_n hx hb d_La_law_551 rfl (lv_at hl 1 rfl) ?_
        refine lv_iload hx hb d_La_law_552 (lv_at hl 5 rfl) ?_
        refine lv_iconst (v := nI 1) hx hb d_La_law_554 (by decide +kernel) ?_
        refine lv_iadd hx hb d_La_law_555 ?_
        refine aw_ti (nI_add (6 * t) 1) ?_
        refine va_sld hx hb hX hbl hbA hS (i := (nI ((6 * t) + 1))) (vp_in_nI (by omega) (by omega)) d_La_law_556 ?_
        refine aw_ti (y := p0) (by rw [nI_clamp (by omega)]; exact hp0.symm) ?_
        refine lv_aload_n hx hb d_La_law_557 rfl (lv_at hl 1 rfl) ?_
        refine lv_iload hx hb d_La_law_558 (lv_at hl 5 rfl) ?_
        refine lv_iconst (v := nI 2) hx hb d_La_law_560 (by decide +kernel) ?_
        refine lv_iadd hx hb d_La_law_561 ?_
        refine aw_ti (nI_add (6 * t) 2) ?_
        refine va_sld hx hb hX hbl hbA hS (i := (nI ((6 * t) + 2))) (vp_in_nI (by omega) (by omega)) d_La_law_562 ?_
        refine lv_topi (fun x212 _ => ?_)
        obtain ⟨_, _, _, he213⟩ := rd_M0 hSh
        refine va_callv (va_runV (As := [.int p0, .int x212]) (rest := []) ⟨hx, hb, hml, hown, hG⟩ (k_Mo_putX l D g ad G G F N0 p0 x212 (aw_bnd 63 (by decide) hc)) (aw_wV 2 hG gw_12_18 gw_12_15 gw_0_10 gw_12_16 gw_12_17 rfl rfl hd_Mo_put ⟨Nat.le_of_ble_eq_true rfl, Nat.le_of_ble_eq_true rfl⟩) (aw_qV (va_recv hK hP rfl he213) hP hD hSh hU hS) rfl rfl hl.1 rfl (lv_room (Nat.le_of_ble_eq_true rfl)) d_La_law_563 ⟨by omega, by omega⟩) hS (fun _ _ h => h) (fun _ h => h) (fun u8 t8 H locs ht _ _ hB _ _ hS => ?_)
        obtain ⟨L, hP, hD, hSh⟩ := hB
        rw [ht] at hP
        clear ht
        refine lv_goto (tgt := 837) hx hb d_La_law_566 (by decide) ?_
        refine lv_iinc (k := 5) (v := nI (6 * t + 6)) hx hb d_La_law_837 hl rfl (aw_inc (6 * t) 6 6 (by decide +kernel)) (by decide) rfl (fun ls hl => ?_)
        have hl : lv_has ls 8 [(4, .int (nI (6 * t + 6))), (5, .int (nI 1)), (0, .ref b), (1, .ref (aw_r ad 0)), (2, .ref (aw_m ad 0)), (3, .ref (aw_o ad))] := hl
        refine lv_goto (tgt := 23) hx hb d_La_law_840 (by decide) ?_
        have hl := lv_sub hl (l' := [(0, .ref b), (1, .ref (aw_r ad 0)), (2, .ref (aw_m ad 0)), (3, .ref (aw_o ad)), (4, .int (nI (6 * t + 6)))]) [2, 3, 4, 5, 0] rfl
        refine W.widen (k := 85 + (t + 1)) (n := 1246 + 6 * (t + 1)) (by omega) (by omega) ?_
        exact ih (t + 1) G (nI 1) _ _ L ls (by omega) hP hD hSh hS (by first | exact hl | simpa [Nat.mul_add] using hl)
      · refine lv_aload_n hx hb d_La_law_532 rfl (lv_at hl 1 rfl) ?_
        refine lv_aload_n hx hb d_La_law_533 rfl (lv_at hl 0 rfl) ?_
        refine lv_iload hx hb d_La_law_534 (lv_at hl 4 rfl) ?_
        refine lv_iconst (v := nI 1) hx hb d_La_law_536 (by decide +kernel) ?_
        refine lv_iadd hx hb d_La_law_537 ?_
        refine aw_ti (nI_add (6 * t) 1) ?_
        refine va_sld hx hb hX hbl hbA hS (i := (nI ((6 * t) + 1))) (vp_in_nI (by omega) (by omega)) d_La_law_538 ?_
        refine aw_ti (y := nI k) (by rw [nI_clamp (by omega)]; exact hp0.symm) ?_
        refine lv_aload_n hx hb d_La_law_539 rfl (lv_at hl 0 rfl) ?_
        refine lv_iload hx hb d_La_law_540 (lv_at hl 4 rfl) ?_
        refine lv_iconst (v := nI 2) hx hb d_La_law_542 (by decide +kernel) ?_
        refine lv_iadd hx hb d_La_law_543 ?_
        refine aw_ti (nI_add (6 * t) 2) ?_
        refine va_sld hx hb hX hbl hbA hS (i := (nI ((6 * t) + 2))) (vp_in_nI (by omega) (by omega)) d_La_law_544 ?_
        refine lv_topi (fun x214 _ => ?_)
        refine va_calli (vx_runSW (As := [.ref (aw_r ad 0), .int (nI k), .int x214]) (rest := []) ⟨hx, hb, hml, hown, hG⟩ (k_La_put1 l hst D g ad G G F N0 k x214 (by omega)) (aw_wW 3 hG gw_7_25 gw_7_23 gw_0_0 gw_7_24 rfl rfl hd_La_put ⟨Nat.le_of_ble_eq_true rfl, Nat.le_of_ble_eq_true rfl⟩) (aw_qS hP hD hSh hU hS) rfl rfl hl.1 rfl (lv_room (Nat.le_of_ble_eq_true rfl)) d_La_law_545 ⟨by omega, by omega⟩) hS (fun _ _ h => h) (fun _ h => h) (fun x215 u8 t8 H locs ht _ hpx215 hB _ _ hS => ?_)
        obtain ⟨L, hP, hD, hSh⟩ := hB
        rw [ht] at hP
        clear ht
        subst hpx215
        refine lv_istore hx hb d_La_law_548 hl (by decide) rfl (fun ls hl => ?_)
        have hl : lv_has ls 8 [(5, .int (nI 0)), (0, .ref b), (1, .ref (aw_r ad 0)), (2, .ref (aw_m ad 0)), (3, .ref (aw_o ad)), (4, .int (nI (6 * t)))] := hl
        refine lv_aload_n hx hb d_La_law_550 rfl (lv_at hl 3 rfl) ?_
        refine lv_aload_n hx hb d_La_law_551 rfl (lv_at hl 1 rfl) ?_
        refine lv_iload hx hb d_La_law_552 (lv_at hl 5 rfl) ?_
        refine lv_iconst (v := nI 1) hx hb d_La_law_554 (by decide +kernel) ?_
        refine lv_iadd hx hb d_La_law_555 ?_
        refine aw_ti (nI_add (6 * t) 1) ?_
        refine va_sld hx hb hX hbl hbA hS (i := (nI ((6 * t) + 1))) (vp_in_nI (by omega) (by omega)) d_La_law_556 ?_
        refine aw_ti (y := nI k) (by rw [nI_clamp (by omega)]; exact hp0.symm) ?_
        refine lv_aload_n hx hb d_La_law_557 rfl (lv_at hl 1 rfl) ?_
        refine lv_iload hx hb d_La_law_558 (lv_at hl 5 rfl) ?_
        refine lv_iconst (v := nI 2) hx hb d_La_law_560 (by decide +kernel) ?_
        refine lv_iadd hx hb d_La_law_561 ?_
        refine aw_ti (nI_add (6 * t) 2) ?_
        refine va_sld hx hb hX hbl hbA hS (i := (nI ((6 * t) + 2))) (vp_in_nI (by omega) (by omega)) d_La_law_562 ?_
        refine lv_topi (fun x216 _ => ?_)
        obtain ⟨_, _, _, he217⟩ := rd_M0 hSh
        refine va_callv (va_runV (As := [.int (nI k), .int x216]) (rest := []) ⟨hx, hb, hml, hown, hG⟩ (k_Mo_put1 l D g ad G G F N0 k x216 (by omega)) (aw_wV 2 hG gw_12_18 gw_12_15 gw_0_10 gw_12_16 gw_12_17 rfl rfl hd_Mo_put ⟨Nat.le_of_ble_eq_true rfl, Nat.le_of_ble_eq_true rfl⟩) (aw_qV (va_recv hK hP rfl he217) hP hD hSh hU hS) rfl rfl hl.1 rfl (lv_room (Nat.le_of_ble_eq_true rfl)) d_La_law_563 ⟨by omega, by omega⟩) hS (fun _ _ h => h) (fun _ h => h) (fun u8 t8 H locs ht _ _ hB _ _ hS => ?_)
        obtain ⟨L, hP, hD, hSh⟩ := hB
        rw [ht] at hP
        clear ht
        refine lv_goto (tgt := 837) hx hb d_La_law_566 (by decide) ?_
        refine lv_iinc (k := 5) (v := nI (6 * t + 6)) hx hb d_La_law_837 hl rfl (aw_inc (6 * t) 6 6 (by decide +kernel)) (by decide) rfl (fun ls hl => ?_)
        have hl : lv_has ls 8 [(4, .int (nI (6 * t + 6))), (5, .int (nI 0)), (0, .ref b), (1, .ref (aw_r ad 0)), (2, .ref (aw_m ad 0)), (3, .ref (aw_o ad))] := hl
        refine lv_goto (tgt := 23) hx hb d_La_law_840 (by decide) ?_
        have hl := lv_sub hl (l' := [(0, .ref b), (1, .ref (aw_r ad 0)), (2, .ref (aw_m ad 0)), (3, .ref (aw_o ad)), (4, .int (nI (6 * t + 6)))]) [2, 3, 4, 5, 0] rfl
        refine W.widen (k := 85 + (t + 1)) (n := 1246 + 6 * (t + 1)) (by omega) (by omega) ?_
        exact ih (t + 1) G (nI 0) _ _ L ls (by omega) hP hD hSh hS (by first | exact hl | simpa [Nat.mul_add] using hl)
    · refine aw_ti (y := nI 8) (by rw [hs3]) ?_
      refine lv_tableIn (tgt := 569) (off := 529) hx hb d_La_law_40 (by decide +kernel) (by decide +kernel) (by decide +kernel) (by decide) ?_
      refine lv_aload_n hx hb d_La_law_569 rfl (lv_at hl 1 rfl) ?_
      refine lv_aload_n hx hb d_La_law_570 rfl (lv_at hl 0 rfl) ?_
      refine lv_iload hx hb d_La_law_571 (lv_at hl 4 rfl) ?_
      refine lv_iconst (v := nI 1) hx hb d_La_law_573 (by decide +kernel) ?_
      refine lv_iadd hx hb d_La_law_574 ?_
      refine aw_ti (nI_add (6 * t) 1) ?_
      refine va_sld hx hb hX hbl hbA hS (i := (nI ((6 * t) + 1))) (vp_in_nI (by omega) (by omega)) d_La_law_575 ?_
      refine lv_topi (fun x218 _ => ?_)
      refine lv_aload_n hx hb d_La_law_576 rfl (lv_at hl 3 rfl) ?_
      refine va_calli (vx_runSW (As := [.ref (aw_r ad 0), .int x218, .ref (aw_o ad)]) (rest := []) ⟨hx, hb, hml, hown, hG⟩ (k_La_getJ l hst D g ad G G F N0 x218 hSh.2.2.2.2.1) (aw_wW 3 hG gw_7_35 gw_7_33 gw_0_0 gw_7_34 rfl rfl hd_La_get ⟨Nat.le_of_ble_eq_true rfl, Nat.le_of_ble_eq_true rfl⟩) (aw_qS hP hD hSh hU hS) rfl rfl hl.1 rfl (lv_room (Nat.le_of_ble_eq_true rfl)) d_La_law_577 ⟨by omega, by omega⟩) hS (fun _ _ h => h) (fun _ h => h) (fun x219 u8 t8 H locs ht _ _ hB _ _ hS => ?_)
      obtain ⟨L, hP, hD, hSh⟩ := hB
      rw [ht] at hP
      clear ht
      refine lv_istore hx hb d_La_law_580 hl (by decide) rfl (fun ls hl => ?_)
      have hl : lv_has ls 8 [(5, .int x219), (0, .ref b), (1, .ref (aw_r ad 0)), (2, .ref (aw_m ad 0)), (3, .ref (aw_o ad)), (4, .int (nI (6 * t)))] := hl
      refine lv_aload_n hx hb d_La_law_582 rfl (lv_at hl 3 rfl) ?_
      refine lv_aload_n hx hb d_La_law_583 rfl (lv_at hl 1 rfl) ?_
      refine lv_iload hx hb d_La_law_584 (lv_at hl 5 rfl) ?_
      refine lv_iconst (v := nI 1) hx hb d_La_law_586 (by decide +kernel) ?_
      refine lv_iadd hx hb d_La_law_587 ?_
      refine aw_ti (nI_add (6 * t) 1) ?_
      refine va_sld hx hb hX hbl hbA hS (i := (nI ((6 * t) + 1))) (vp_in_nI (by omega) (by omega)) d_La_law_588 ?_
      refine lv_topi (fun x220 _ => ?_)
      obtain ⟨_, _, _, he221⟩ := rd_M0 hSh
      refine va_calli (va_runV (As := [.int x220]) (rest := []) ⟨hx, hb, hml, hown, hG⟩ (k_Mo_getJ l D g ad G G F N0 x220 hSh.2.2.2.2.2) (aw_wV 1 hG gw_12_22 gw_12_19 gw_0_10 gw_12_20 gw_12_21 rfl rfl hd_Mo_get ⟨Nat.le_of_ble_eq_true rfl, Nat.le_of_ble_eq_true rfl⟩) (aw_qV (va_recv hK hP rfl he221) hP hD hSh hU hS) rfl rfl hl.1 rfl (lv_room (Nat.le_of_ble_eq_true rfl)) d_La_law_589 ⟨by omega, by omega⟩) hS (fun _ _ h => h) (fun _ h => h) (fun x222 u8 t8 H locs ht _ _ hB _ _ hS => ?_)
      obtain ⟨F223, L, hP, hD, hSh⟩ := hB
      rw [ht] at hP
      clear ht
      refine lv_istore hx hb d_La_law_592 hl (by decide) rfl (fun ls hl => ?_)
      have hl : lv_has ls 8 [(6, .int x222), (5, .int x219), (0, .ref b), (1, .ref (aw_r ad 0)), (2, .ref (aw_m ad 0)), (3, .ref (aw_o ad)), (4, .int (nI (6 * t)))] := hl
      refine lv_goto (tgt := 837) hx hb d_La_law_594 (by decide) ?_
      refine lv_iinc (k := 6) (v := nI (6 * t + 6)) hx hb d_La_law_837 hl rfl (aw_inc (6 * t) 6 6 (by decide +kernel)) (by decide) rfl (fun ls hl => ?_)
      have hl : lv_has ls 8 [(4, .int (nI (6 * t + 6))), (6, .int x222), (5, .int x219), (0, .ref b), (1, .ref (aw_r ad 0)), (2, .ref (aw_m ad 0)), (3, .ref (aw_o ad))] := hl
      refine lv_goto (tgt := 23) hx hb d_La_law_840 (by decide) ?_
      have hl := lv_sub hl (l' := [(0, .ref b), (1, .ref (aw_r ad 0)), (2, .ref (aw_m ad 0)), (3, .ref (aw_o ad)), (4, .int (nI (6 * t + 6)))]) [3, 4, 5, 6, 0] rfl
      refine W.widen (k := 85 + (t + 1)) (n := 1246 + 6 * (t + 1)) (by omega) (by omega) ?_
      exact ih (t + 1) G F223 _ _ L ls (by omega) hP hD hSh hS (by first | exact hl | simpa [Nat.mul_add] using hl)
    · refine aw_ti (y := nI 9) (by rw [hs3]) ?_
      refine lv_tableIn (tgt := 597) (off := 557) hx hb d_La_law_40 (by decide +kernel) (by decide +kernel) (by decide +kernel) (by decide) ?_
      refine lv_aload_n hx hb d_La_law_597 rfl (lv_at hl 1 rfl) ?_
      refine lv_aload_n hx hb d_La_law_598 rfl (lv_at hl 0 rfl) ?_
      refine lv_iload hx hb d_La_law_599 (lv_at hl 4 rfl) ?_
      refine lv_iconst (v := nI 1) hx hb d_La_law_601 (by decide +kernel) ?_
      refine lv_iadd hx hb d_La_law_602 ?_
      refine aw_ti (nI_add (6 * t) 1) ?_
      refine va_sld hx hb hX hbl hbA hS (i := (nI ((6 * t) + 1))) (vp_in_nI (by omega) (by omega)) d_La_law_603 ?_
      refine lv_topi (fun x224 _ => ?_)
      refine lv_aload_n hx hb d_La_law_604 rfl (lv_at hl 0 rfl) ?_
      refine lv_iload hx hb d_La_law_605 (lv_at hl 4 rfl) ?_
      refine lv_iconst (v := nI 2) hx hb d_La_law_607 (by decide +kernel) ?_
      refine lv_iadd hx hb d_La_law_608 ?_
      refine aw_ti (nI_add (6 * t) 2) ?_
      refine va_sld hx hb hX hbl hbA hS (i := (nI ((6 * t) + 2))) (vp_in_nI (by omega) (by omega)) d_La_law_609 ?_
      refine lv_topi (fun x225 _ => ?_)
      have hj226 : ∀ x227 : Int32, W p l e room_1 s m #[Value.ref b] below meth c H locs (85 + t) (1246 + 6 * t) (lw_Z below #[Value.ref b] s) (F0 m 618 ls [.int x227, .int x224, .ref (aw_r ad 0)]) := by
        intro x227
        refine lv_aload_n hx hb d_La_law_618 rfl (lv_at hl 0 rfl) ?_
        refine lv_iload hx hb d_La_law_619 (lv_at hl 4 rfl) ?_
        refine lv_iconst (v := nI 3) hx hb d_La_law_621 (by decide +kernel) ?_
        refine lv_iadd hx hb d_La_law_622 ?_
        refine aw_ti (nI_add (6 * t) 3) ?_
        refine va_sld hx hb hX hbl hbA hS (i := (nI ((6 * t) + 3))) (vp_in_nI (by omega) (by omega)) d_La_law_623 ?_
        refine lv_topi (fun x228 _ => ?_)
        refine lv_aload_n hx hb d_La_law_624 rfl (lv_at hl 0 rfl) ?_
        refine lv_iload hx hb d_La_law_625 (lv_at hl 4 rfl) ?_
        refine lv_iconst (v := nI 4) hx hb d_La_law_627 (by decide +kernel) ?_
        refine lv_iadd hx hb d_La_law_628 ?_
        refine aw_ti (nI_add (6 * t) 4) ?_
        refine va_sld hx hb hX hbl hbA hS (i := (nI ((6 * t) + 4))) (vp_in_nI (by omega) (by omega)) d_La_law_629 ?_
        refine lv_topi (fun x229 _ => ?_)
        refine lv_aload_n hx hb d_La_law_630 rfl (lv_at hl 3 rfl) ?_
        refine va_calli (vx_runSW (As := [.ref (aw_r ad 0), .int x224, .int x227, .int x228, .int x229, .ref (aw_o ad)]) (rest := []) ⟨hx, hb, hml, hown, hG⟩ (k_La_feedJ l hst D g ad G G F N0 x224 x227 x228 x229 hSh.2.2.2.2.1) (aw_wW 6 hG gw_7_42 gw_7_40 gw_0_0 gw_7_41 rfl rfl hd_La_feed ⟨Nat.le_of_ble_eq_true rfl, Nat.le_of_ble_eq_true rfl⟩) (aw_qS hP hD hSh hU hS) rfl rfl hl.1 rfl (lv_room (Nat.le_of_ble_eq_true rfl)) d_La_law_631 ⟨by omega, by omega⟩) hS (fun _ _ h => h) (fun _ h => h) (fun x230 u8 t8 H locs ht _ _ hB _ _ hS => ?_)
        obtain ⟨L, hP, hD, hSh⟩ := hB
        rw [ht] at hP
        clear ht
        refine lv_istore hx hb d_La_law_634 hl (by decide) rfl (fun ls hl => ?_)
        have hl : lv_has ls 8 [(5, .int x230), (0, .ref b), (1, .ref (aw_r ad 0)), (2, .ref (aw_m ad 0)), (3, .ref (aw_o ad)), (4, .int (nI (6 * t)))] := hl
        refine lv_aload_n hx hb d_La_law_636 rfl (lv_at hl 3 rfl) ?_
        refine lv_aload_n hx hb d_La_law_637 rfl (lv_at hl 1 rfl) ?_
        refine lv_iload hx hb d_La_law_638 (lv_at hl 5 rfl) ?_
        refine lv_iconst (v := nI 1) hx hb d_La_law_640 (by decide +kernel) ?_
        refine lv_iadd hx hb d_La_law_641 ?_
        refine aw_ti (nI_add (6 * t) 1) ?_
        refine va_sld hx hb hX hbl hbA hS (i := (nI ((6 * t) + 1))) (vp_in_nI (by omega) (by omega)) d_La_law_642 ?_
        refine lv_topi (fun x231 _ => ?_)
        refine lv_aload_n hx hb d_La_law_643 rfl (lv_at hl 1 rfl) ?_
        refine lv_iload hx hb d_La_law_644 (lv_at hl 5 rfl) ?_
        refine lv_iconst (v := nI 2) hx hb d_La_law_646 (by decide +kernel) ?_
        refine lv_iadd hx hb d_La_law_647 ?_
        refine aw_ti (nI_add (6 * t) 2) ?_
        refine va_sld hx hb hX hbl hbA hS (i := (nI ((6 * t) + 2))) (vp_in_nI (by omega) (by omega)) d_La_law_648 ?_
        refine lv_topi (fun x232 _ => ?_)
        have hj233 : ∀ x234 : Int32, W p l e room_1 s m #[Value.ref b] below meth c H locs ((85 + t) + 1) ((1246 + 6 * t) + 6) (lw_Z below #[Value.ref b] s) (F0 m 657 ls [.int x234, .int x231, .ref (aw_m ad 0)]) := by
          intro x234
          refine lv_aload_n hx hb d_La_law_657 rfl (lv_at hl 1 rfl) ?_
          refine lv_iload hx hb d_La_law_658 (lv_at hl 5 rfl) ?_
          refine lv_iconst (v := nI 3) hx hb d_La_law_660 (by decide +kernel) ?_
          refine lv_iadd hx hb d_La_law_661 ?_
          refine aw_ti (nI_add (6 * t) 3) ?_
          refine va_sld hx hb hX hbl hbA hS (i := (nI ((6 * t) + 3))) (vp_in_nI (by omega) (by omega)) d_La_law_662 ?_
          refine lv_topi (fun x235 _ => ?_)
          refine lv_aload_n hx hb d_La_law_663 rfl (lv_at hl 1 rfl) ?_
          refine lv_iload hx hb d_La_law_664 (lv_at hl 5 rfl) ?_
          refine lv_iconst (v := nI 4) hx hb d_La_law_666 (by decide +kernel) ?_
          refine lv_iadd hx hb d_La_law_667 ?_
          refine aw_ti (nI_add (6 * t) 4) ?_
          refine va_sld hx hb hX hbl hbA hS (i := (nI ((6 * t) + 4))) (vp_in_nI (by omega) (by omega)) d_La_law_668 ?_
          refine lv_topi (fun x236 _ => ?_)
          obtain ⟨_, _, _, he237⟩ := rd_M0 hSh
          refine va_calli (va_runV (As := [.int x231, .int x234, .int x235, .int x236]) (rest := []) ⟨hx, hb, hml, hown, hG⟩ (k_Mo_feedJ l D g ad G G F N0 x231 x234 x235 x236 hSh.2.2.2.2.2) (aw_wV 4 hG gw_12_26 gw_12_23 gw_0_10 gw_12_24 gw_12_25 rfl rfl hd_Mo_feed ⟨Nat.le_of_ble_eq_true rfl, Nat.le_of_ble_eq_true rfl⟩) (aw_qV (va_recv hK hP rfl he237) hP hD hSh hU hS) rfl rfl hl.1 rfl (lv_room (Nat.le_of_ble_eq_true rfl)) d_La_law_669 ⟨by omega, by omega⟩) hS (fun _ _ h => h) (fun _ h => h) (fun x238 u8 t8 H locs ht _ _ hB _ _ hS => ?_)
          obtain ⟨F239, L, hP, hD, hSh⟩ := hB
          rw [ht] at hP
          clear ht
          refine lv_istore hx hb d_La_law_672 hl (by decide) rfl (fun ls hl => ?_)
          have hl : lv_has ls 8 [(6, .int x238), (5, .int x230), (0, .ref b), (1, .ref (aw_r ad 0)), (2, .ref (aw_m ad 0)), (3, .ref (aw_o ad)), (4, .int (nI (6 * t)))] := hl
          refine lv_goto (tgt := 837) hx hb d_La_law_674 (by decide) ?_
          refine lv_iinc (k := 6) (v := nI (6 * t + 6)) hx hb d_La_law_837 hl rfl (aw_inc (6 * t) 6 6 (by decide +kernel)) (by decide) rfl (fun ls hl => ?_)
          have hl : lv_has ls 8 [(4, .int (nI (6 * t + 6))), (6, .int x238), (5, .int x230), (0, .ref b), (1, .ref (aw_r ad 0)), (2, .ref (aw_m ad 0)), (3, .ref (aw_o ad))] := hl
          refine lv_goto (tgt := 23) hx hb d_La_law_840 (by decide) ?_
          have hl := lv_sub hl (l' := [(0, .ref b), (1, .ref (aw_r ad 0)), (2, .ref (aw_m ad 0)), (3, .ref (aw_o ad)), (4, .int (nI (6 * t + 6)))]) [3, 4, 5, 6, 0] rfl
          refine W.widen (k := 85 + (t + 1)) (n := 1246 + 6 * (t + 1)) (by omega) (by omega) ?_
          exact ih (t + 1) G F239 _ _ L ls (by omega) hP hD hSh hS (by first | exact hl | simpa [Nat.mul_add] using hl)
        refine lv_if_eq (tgt := 656) hx hb d_La_law_649 (by decide) (fun _ => ?_) (fun _ => ?_)
        · refine lv_iconst (v := nI 0) hx hb d_La_law_656 (by decide +kernel) ?_
          exact hj233 _
        · refine lv_iconst (v := nI 1) hx hb d_La_law_652 (by decide +kernel) ?_
          refine lv_goto (tgt := 657) hx hb d_La_law_653 (by decide) ?_
          exact hj233 _
      refine lv_if_eq (tgt := 617) hx hb d_La_law_610 (by decide) (fun _ => ?_) (fun _ => ?_)
      · refine lv_iconst (v := nI 0) hx hb d_La_law_617 (by decide +kernel) ?_
        exact hj226 _
      · refine lv_iconst (v := nI 1) hx hb d_La_law_613 (by decide +kernel) ?_
        refine lv_goto (tgt := 618) hx hb d_La_law_614 (by decide) ?_
        exact hj226 _
    · refine aw_ti (y := nI 10) (by rw [hs3]) ?_
      refine lv_tableIn (tgt := 677) (off := 637) hx hb d_La_law_40 (by decide +kernel) (by decide +kernel) (by decide +kernel) (by decide) ?_
      obtain ⟨c0, hc0⟩ : ∃ z : Int32, z = xs (6 * t + 1) := ⟨_, rfl⟩
      rcases aw_rng 4 (by decide) c0 with hc | ⟨j, hj, rfl⟩
      · refine lv_aload_n hx hb d_La_law_677 rfl (lv_at hl 1 rfl) ?_
        refine lv_aload_n hx hb d_La_law_678 rfl (lv_at hl 0 rfl) ?_
        refine lv_iload hx hb d_La_law_679 (lv_at hl 4 rfl) ?_
        refine lv_iconst (v := nI 1) hx hb d_La_law_681 (by decide +kernel) ?_
        refine lv_iadd hx hb d_La_law_682 ?_
        refine aw_ti (nI_add (6 * t) 1) ?_
        refine va_sld hx hb hX hbl hbA hS (i := (nI ((6 * t) + 1))) (vp_in_nI (by omega) (by omega)) d_La_law_683 ?_
        refine aw_ti (y := c0) (by rw [nI_clamp (by omega)]; exact hc0.symm) ?_
        refine lv_aload_n hx hb d_La_law_684 rfl (lv_at hl 0 rfl) ?_
        refine lv_iload hx hb d_La_law_685 (lv_at hl 4 rfl) ?_
        refine lv_iconst (v := nI 2) hx hb d_La_law_687 (by decide +kernel) ?_
        refine lv_iadd hx hb d_La_law_688 ?_
        refine aw_ti (nI_add (6 * t) 2) ?_
        refine va_sld hx hb hX hbl hbA hS (i := (nI ((6 * t) + 2))) (vp_in_nI (by omega) (by omega)) d_La_law_689 ?_
        refine lv_topi (fun x240 _ => ?_)
        refine lv_i2l hx hb d_La_law_690 rfl ?_
        refine lv_topl (fun y241 _ => ?_)
        refine lv_bipush (v := nI 32) hx hb d_La_law_691 (by decide +kernel) ?_
        refine lv_lshl hx hb d_La_law_693 rfl ?_
        refine lv_topl (fun y242 _ => ?_)
        refine lv_aload_n hx hb d_La_law_694 rfl (lv_at hl 0 rfl) ?_
        refine lv_iload hx hb d_La_law_695 (lv_at hl 4 rfl) ?_
        refine lv_iconst (v := nI 3) hx hb d_La_law_697 (by decide +kernel) ?_
        refine lv_iadd hx hb d_La_law_698 ?_
        refine aw_ti (nI_add (6 * t) 3) ?_
        refine va_sld hx hb hX hbl hbA hS (i := (nI ((6 * t) + 3))) (vp_in_nI (by omega) (by omega)) d_La_law_699 ?_
        refine lv_topi (fun x243 _ => ?_)
        refine lv_i2l hx hb d_La_law_700 rfl ?_
        refine lv_topl (fun y244 _ => ?_)
        refine lv_ldc2 (v := 4294967295) hx hb hown (hG _ gw_13_3) d_La_law_701 ?_
        refine lv_land hx hb d_La_law_704 ?_
        refine lv_topl (fun y245 _ => ?_)
        refine lv_lor hx hb d_La_law_705 ?_
        refine lv_topl (fun y246 _ => ?_)
        refine va_calli (vx_runSW (As := [.ref (aw_r ad 0), .int c0, .long y246]) (rest := []) ⟨hx, hb, hml, hown, hG⟩ (k_La_seekXc l hst D g ad G G F N0 c0 y246 hc) (aw_wW 3 hG gw_8_26 gw_8_24 gw_0_0 gw_8_25 rfl rfl hd_La_seek ⟨Nat.le_of_ble_eq_true rfl, Nat.le_of_ble_eq_true rfl⟩) (aw_qS hP hD hSh hU hS) rfl rfl hl.1 rfl (lv_room (Nat.le_of_ble_eq_true rfl)) d_La_law_706 ⟨by omega, by omega⟩) hS (fun _ _ h => h) (fun _ h => h) (fun x247 u8 t8 H locs ht _ hpx247 hB _ _ hS => ?_)
        obtain ⟨L, hP, hD, hSh⟩ := hB
        rw [ht] at hP
        clear ht
        subst hpx247
        refine lv_istore hx hb d_La_law_709 hl (by decide) rfl (fun ls hl => ?_)
        have hl : lv_has ls 8 [(5, .int (nI 1)), (0, .ref b), (1, .ref (aw_r ad 0)), (2, .ref (aw_m ad 0)), (3, .ref (aw_o ad)), (4, .int (nI (6 * t)))] := hl
        refine lv_aload_n hx hb d_La_law_711 rfl (lv_at hl 3 rfl) ?_
        refine lv_aload_n hx hb d_La_law_712 rfl (lv_at hl 1 rfl) ?_
        refine lv_iload hx hb d_La_law_713 (lv_at hl 5 rfl) ?_
        refine lv_iconst (v := nI 1) hx hb d_La_law_715 (by decide +kernel) ?_
        refine lv_iadd hx hb d_La_law_716 ?_
        refine aw_ti (nI_add (6 * t) 1) ?_
        refine va_sld hx hb hX hbl hbA hS (i := (nI ((6 * t) + 1))) (vp_in_nI (by omega) (by omega)) d_La_law_717 ?_
        refine aw_ti (y := c0) (by rw [nI_clamp (by omega)]; exact hc0.symm) ?_
        refine lv_aload_n hx hb d_La_law_718 rfl (lv_at hl 1 rfl) ?_
        refine lv_iload hx hb d_La_law_719 (lv_at hl 5 rfl) ?_
        refine lv_iconst (v := nI 2) hx hb d_La_law_721 (by decide +kernel) ?_
        refine lv_iadd hx hb d_La_law_722 ?_
        refine aw_ti (nI_add (6 * t) 2) ?_
        refine va_sld hx hb hX hbl hbA hS (i := (nI ((6 * t) + 2))) (vp_in_nI (by omega) (by omega)) d_La_law_723 ?_
        refine lv_topi (fun x248 _ => ?_)
        refine lv_i2l hx hb d_La_law_724 rfl ?_
        refine lv_topl (fun y249 _ => ?_)
        refine lv_bipush (v := nI 32) hx hb d_La_law_725 (by decide +kernel) ?_
        refine lv_lshl hx hb d_La_law_727 rfl ?_
        refine lv_topl (fun y250 _ => ?_)
        refine lv_aload_n hx hb d_La_law_728 rfl (lv_at hl 1 rfl) ?_
        refine lv_iload hx hb d_La_law_729 (lv_at hl 5 rfl) ?_
        refine lv_iconst (v := nI 3) hx hb d_La_law_731 (by decide +kernel) ?_
        refine lv_iadd hx hb d_La_law_732 ?_
        refine aw_ti (nI_add (6 * t) 3) ?_
        refine va_sld hx hb hX hbl hbA hS (i := (nI ((6 * t) + 3))) (vp_in_nI (by omega) (by omega)) d_La_law_733 ?_
        refine lv_topi (fun x251 _ => ?_)
        refine lv_i2l hx hb d_La_law_734 rfl ?_
        refine lv_topl (fun y252 _ => ?_)
        refine lv_ldc2 (v := 4294967295) hx hb hown (hG _ gw_13_3) d_La_law_735 ?_
        refine lv_land hx hb d_La_law_738 ?_
        refine lv_topl (fun y253 _ => ?_)
        refine lv_lor hx hb d_La_law_739 ?_
        refine lv_topl (fun y254 _ => ?_)
        obtain ⟨_, _, _, he255⟩ := rd_M0 hSh
        refine va_callv (va_runV (As := [.int c0, .long y254]) (rest := []) ⟨hx, hb, hml, hown, hG⟩ (k_Mo_seekXc l D g ad G G F N0 c0 y254 hc) (aw_wV 2 hG gw_12_45 gw_12_42 gw_0_10 gw_12_43 gw_12_44 rfl rfl hd_Mo_seek ⟨Nat.le_of_ble_eq_true rfl, Nat.le_of_ble_eq_true rfl⟩) (aw_qV (va_recv hK hP rfl he255) hP hD hSh hU hS) rfl rfl hl.1 rfl (lv_room (Nat.le_of_ble_eq_true rfl)) d_La_law_740 ⟨by omega, by omega⟩) hS (fun _ _ h => h) (fun _ h => h) (fun u8 t8 H locs ht _ _ hB _ _ hS => ?_)
        obtain ⟨L, hP, hD, hSh⟩ := hB
        rw [ht] at hP
        clear ht
        refine lv_aload_n hx hb d_La_law_743 rfl (lv_at hl 3 rfl) ?_
        obtain ⟨_, _, _, he256⟩ := rd_M0 hSh
        refine va_calli (va_runV (As := []) (rest := []) ⟨hx, hb, hml, hown, hG⟩ (k_Mo_thrown l D g ad G G (nI 1) N0) (aw_wV 0 hG gw_10_27 gw_10_24 gw_0_10 gw_10_25 gw_10_26 rfl rfl hd_Mo_thrown ⟨Nat.le_of_ble_eq_true rfl, Nat.le_of_ble_eq_true rfl⟩) (aw_qV (va_recv hK hP rfl he256) hP hD hSh hU hS) rfl rfl hl.1 rfl (lv_room (Nat.le_of_ble_eq_true rfl)) d_La_law_744 ⟨by omega, by omega⟩) hS (fun _ _ h => h) (fun _ h => h) (fun x257 u8 t8 H locs ht _ hpx257 hB _ _ hS => ?_)
        obtain ⟨L, hP, hD, hSh⟩ := hB
        rw [ht] at hP
        clear ht
        subst hpx257
        refine lv_iload hx hb d_La_law_747 (lv_at hl 0 rfl) ?_
        refine lv_icmp_eq (tgt := 754) hx hb d_La_law_749 (by decide) (fun _ => ?_) (fun h => absurd (by decide +kernel) h)
        refine lv_goto (tgt := 837) hx hb d_La_law_754 (by decide) ?_
        refine lv_iinc (k := 5) (v := nI (6 * t + 6)) hx hb d_La_law_837 hl rfl (aw_inc (6 * t) 6 6 (by decide +kernel)) (by decide) rfl (fun ls hl => ?_)
        have hl : lv_has ls 8 [(4, .int (nI (6 * t + 6))), (5, .int (nI 1)), (0, .ref b), (1, .ref (aw_r ad 0)), (2, .ref (aw_m ad 0)), (3, .ref (aw_o ad))] := hl
        refine lv_goto (tgt := 23) hx hb d_La_law_840 (by decide) ?_
        have hl := lv_sub hl (l' := [(0, .ref b), (1, .ref (aw_r ad 0)), (2, .ref (aw_m ad 0)), (3, .ref (aw_o ad)), (4, .int (nI (6 * t + 6)))]) [2, 3, 4, 5, 0] rfl
        refine W.widen (k := 85 + (t + 1)) (n := 1246 + 6 * (t + 1)) (by omega) (by omega) ?_
        exact ih (t + 1) G (nI 1) _ _ L ls (by omega) hP hD hSh hS (by first | exact hl | simpa [Nat.mul_add] using hl)
      · have hgj := hSh.2.2.2.2.1 j hj
        by_cases hs : (G j).1 = 3 ∧ (G j).2 = 4
        · refine lv_aload_n hx hb d_La_law_677 rfl (lv_at hl 1 rfl) ?_
          refine lv_aload_n hx hb d_La_law_678 rfl (lv_at hl 0 rfl) ?_
          refine lv_iload hx hb d_La_law_679 (lv_at hl 4 rfl) ?_
          refine lv_iconst (v := nI 1) hx hb d_La_law_681 (by decide +kernel) ?_
          refine lv_iadd hx hb d_La_law_682 ?_
          refine aw_ti (nI_add (6 * t) 1) ?_
          refine va_sld hx hb hX hbl hbA hS (i := (nI ((6 * t) + 1))) (vp_in_nI (by omega) (by omega)) d_La_law_683 ?_
          refine aw_ti (y := nI j) (by rw [nI_clamp (by omega)]; exact hc0.symm) ?_
          refine lv_aload_n hx hb d_La_law_684 rfl (lv_at hl 0 rfl) ?_
          refine lv_iload hx hb d_La_law_685 (lv_at hl 4 rfl) ?_
          refine lv_iconst (v := nI 2) hx hb d_La_law_687 (by decide +kernel) ?_
          refine lv_iadd hx hb d_La_law_688 ?_
          refine aw_ti (nI_add (6 * t) 2) ?_
          refine va_sld hx hb hX hbl hbA hS (i := (nI ((6 * t) + 2))) (vp_in_nI (by omega) (by omega)) d_La_law_689 ?_
          refine lv_topi (fun x258 _ => ?_)
          refine lv_i2l hx hb d_La_law_690 rfl ?_
          refine lv_topl (fun y259 _ => ?_)
          refine lv_bipush (v := nI 32) hx hb d_La_law_691 (by decide +kernel) ?_
          refine lv_lshl hx hb d_La_law_693 rfl ?_
          refine lv_topl (fun y260 _ => ?_)
          refine lv_aload_n hx hb d_La_law_694 rfl (lv_at hl 0 rfl) ?_
          refine lv_iload hx hb d_La_law_695 (lv_at hl 4 rfl) ?_
          refine lv_iconst (v := nI 3) hx hb d_La_law_697 (by decide +kernel) ?_
          refine lv_iadd hx hb d_La_law_698 ?_
          refine aw_ti (nI_add (6 * t) 3) ?_
          refine va_sld hx hb hX hbl hbA hS (i := (nI ((6 * t) + 3))) (vp_in_nI (by omega) (by omega)) d_La_law_699 ?_
          refine lv_topi (fun x261 _ => ?_)
          refine lv_i2l hx hb d_La_law_700 rfl ?_
          refine lv_topl (fun y262 _ => ?_)
          refine lv_ldc2 (v := 4294967295) hx hb hown (hG _ gw_13_3) d_La_law_701 ?_
          refine lv_land hx hb d_La_law_704 ?_
          refine lv_topl (fun y263 _ => ?_)
          refine lv_lor hx hb d_La_law_705 ?_
          refine lv_topl (fun y264 _ => ?_)
          refine va_calli (vx_runSW (As := [.ref (aw_r ad 0), .int (nI j), .long y264]) (rest := []) ⟨hx, hb, hml, hown, hG⟩ (k_La_seek1 l hst D g ad G G F N0 j y264 hj (by omega)) (aw_wW 3 hG gw_8_26 gw_8_24 gw_0_0 gw_8_25 rfl rfl hd_La_seek ⟨Nat.le_of_ble_eq_true rfl, Nat.le_of_ble_eq_true rfl⟩) (aw_qS hP hD hSh hU hS) rfl rfl hl.1 rfl (lv_room (Nat.le_of_ble_eq_true rfl)) d_La_law_706 ⟨by omega, by omega⟩) hS (fun _ _ h => h) (fun _ h => h) (fun x265 u8 t8 H locs ht _ hpx265 hB _ _ hS => ?_)
          obtain ⟨L, hP, hD, hSh⟩ := hB
          rw [ht] at hP
          clear ht
          subst hpx265
          refine lv_istore hx hb d_La_law_709 hl (by decide) rfl (fun ls hl => ?_)
          have hl : lv_has ls 8 [(5, .int (nI 0)), (0, .ref b), (1, .ref (aw_r ad 0)), (2, .ref (aw_m ad 0)), (3, .ref (aw_o ad)), (4, .int (nI (6 * t)))] := hl
          refine lv_aload_n hx hb d_La_law_711 rfl (lv_at hl 3 rfl) ?_
          refine lv_aload_n hx hb d_La_law_712 rfl (lv_at hl 1 rfl) ?_
          refine lv_iload hx hb d_La_law_713 (lv_at hl 5 rfl) ?_
          refine lv_iconst (v := nI 1) hx hb d_La_law_715 (by decide +kernel) ?_
          refine lv_iadd hx hb d_La_law_716 ?_
          refine aw_ti (nI_add (6 * t) 1) ?_
          refine va_sld hx hb hX hbl hbA hS (i := (nI ((6 * t) + 1))) (vp_in_nI (by omega) (by omega)) d_La_law_717 ?_
          refine aw_ti (y := nI j) (by rw [nI_clamp (by omega)]; exact hc0.symm) ?_
          refine lv_aload_n hx hb d_La_law_718 rfl (lv_at hl 1 rfl) ?_
          refine lv_iload hx hb d_La_law_719 (lv_at hl 5 rfl) ?_
          refine lv_iconst (v := nI 2) hx hb d_La_law_721 (by decide +kernel) ?_
          refine lv_iadd hx hb d_La_law_722 ?_
          refine aw_ti (nI_add (6 * t) 2) ?_
          refine va_sld hx hb hX hbl hbA hS (i := (nI ((6 * t) + 2))) (vp_in_nI (by omega) (by omega)) d_La_law_723 ?_
          refine lv_topi (fun x266 _ => ?_)
          refine lv_i2l hx hb d_La_law_724 rfl ?_
          refine lv_topl (fun y267 _ => ?_)
          refine lv_bipush (v := nI 32) hx hb d_La_law_725 (by decide +kernel) ?_
          refine lv_lshl hx hb d_La_law_727 rfl ?_
          refine lv_topl (fun y268 _ => ?_)
          refine lv_aload_n hx hb d_La_law_728 rfl (lv_at hl 1 rfl) ?_
          refine lv_iload hx hb d_La_law_729 (lv_at hl 5 rfl) ?_
          refine lv_iconst (v := nI 3) hx hb d_La_law_731 (by decide +kernel) ?_
          refine lv_iadd hx hb d_La_law_732 ?_
          refine aw_ti (nI_add (6 * t) 3) ?_
          refine va_sld hx hb hX hbl hbA hS (i := (nI ((6 * t) + 3))) (vp_in_nI (by omega) (by omega)) d_La_law_733 ?_
          refine lv_topi (fun x269 _ => ?_)
          refine lv_i2l hx hb d_La_law_734 rfl ?_
          refine lv_topl (fun y270 _ => ?_)
          refine lv_ldc2 (v := 4294967295) hx hb hown (hG _ gw_13_3) d_La_law_735 ?_
          refine lv_land hx hb d_La_law_738 ?_
          refine lv_topl (fun y271 _ => ?_)
          refine lv_lor hx hb d_La_law_739 ?_
          refine lv_topl (fun y272 _ => ?_)
          obtain ⟨_, _, _, he273⟩ := rd_M0 hSh
          refine va_callv (va_runV (As := [.int (nI j), .long y272]) (rest := []) ⟨hx, hb, hml, hown, hG⟩ (k_Mo_seek1 l D g ad G G F N0 j y272 hj (by omega)) (aw_wV 2 hG gw_12_45 gw_12_42 gw_0_10 gw_12_43 gw_12_44 rfl rfl hd_Mo_seek ⟨Nat.le_of_ble_eq_true rfl, Nat.le_of_ble_eq_true rfl⟩) (aw_qV (va_recv hK hP rfl he273) hP hD hSh hU hS) rfl rfl hl.1 rfl (lv_room (Nat.le_of_ble_eq_true rfl)) d_La_law_740 ⟨by omega, by omega⟩) hS (fun _ _ h => h) (fun _ h => h) (fun u8 t8 H locs ht _ _ hB _ _ hS => ?_)
          obtain ⟨L, hP, hD, hSh⟩ := hB
          rw [ht] at hP
          clear ht
          refine lv_aload_n hx hb d_La_law_743 rfl (lv_at hl 3 rfl) ?_
          obtain ⟨_, _, _, he274⟩ := rd_M0 hSh
          refine va_calli (va_runV (As := []) (rest := []) ⟨hx, hb, hml, hown, hG⟩ (k_Mo_thrown l D g ad G G (nI 0) N0) (aw_wV 0 hG gw_10_27 gw_10_24 gw_0_10 gw_10_25 gw_10_26 rfl rfl hd_Mo_thrown ⟨Nat.le_of_ble_eq_true rfl, Nat.le_of_ble_eq_true rfl⟩) (aw_qV (va_recv hK hP rfl he274) hP hD hSh hU hS) rfl rfl hl.1 rfl (lv_room (Nat.le_of_ble_eq_true rfl)) d_La_law_744 ⟨by omega, by omega⟩) hS (fun _ _ h => h) (fun _ h => h) (fun x275 u8 t8 H locs ht _ hpx275 hB _ _ hS => ?_)
          obtain ⟨L, hP, hD, hSh⟩ := hB
          rw [ht] at hP
          clear ht
          subst hpx275
          refine lv_iload hx hb d_La_law_747 (lv_at hl 0 rfl) ?_
          refine lv_icmp_eq (tgt := 754) hx hb d_La_law_749 (by decide) (fun _ => ?_) (fun h => absurd (by decide +kernel) h)
          refine lv_goto (tgt := 837) hx hb d_La_law_754 (by decide) ?_
          refine lv_iinc (k := 5) (v := nI (6 * t + 6)) hx hb d_La_law_837 hl rfl (aw_inc (6 * t) 6 6 (by decide +kernel)) (by decide) rfl (fun ls hl => ?_)
          have hl : lv_has ls 8 [(4, .int (nI (6 * t + 6))), (5, .int (nI 0)), (0, .ref b), (1, .ref (aw_r ad 0)), (2, .ref (aw_m ad 0)), (3, .ref (aw_o ad))] := hl
          refine lv_goto (tgt := 23) hx hb d_La_law_840 (by decide) ?_
          have hl := lv_sub hl (l' := [(0, .ref b), (1, .ref (aw_r ad 0)), (2, .ref (aw_m ad 0)), (3, .ref (aw_o ad)), (4, .int (nI (6 * t + 6)))]) [2, 3, 4, 5, 0] rfl
          refine W.widen (k := 85 + (t + 1)) (n := 1246 + 6 * (t + 1)) (by omega) (by omega) ?_
          exact ih (t + 1) G (nI 0) _ _ L ls (by omega) hP hD hSh hS (by first | exact hl | simpa [Nat.mul_add] using hl)
        · refine lv_aload_n hx hb d_La_law_677 rfl (lv_at hl 1 rfl) ?_
          refine lv_aload_n hx hb d_La_law_678 rfl (lv_at hl 0 rfl) ?_
          refine lv_iload hx hb d_La_law_679 (lv_at hl 4 rfl) ?_
          refine lv_iconst (v := nI 1) hx hb d_La_law_681 (by decide +kernel) ?_
          refine lv_iadd hx hb d_La_law_682 ?_
          refine aw_ti (nI_add (6 * t) 1) ?_
          refine va_sld hx hb hX hbl hbA hS (i := (nI ((6 * t) + 1))) (vp_in_nI (by omega) (by omega)) d_La_law_683 ?_
          refine aw_ti (y := nI j) (by rw [nI_clamp (by omega)]; exact hc0.symm) ?_
          refine lv_aload_n hx hb d_La_law_684 rfl (lv_at hl 0 rfl) ?_
          refine lv_iload hx hb d_La_law_685 (lv_at hl 4 rfl) ?_
          refine lv_iconst (v := nI 2) hx hb d_La_law_687 (by decide +kernel) ?_
          refine lv_iadd hx hb d_La_law_688 ?_
          refine aw_ti (nI_add (6 * t) 2) ?_
          refine va_sld hx hb hX hbl hbA hS (i := (nI ((6 * t) + 2))) (vp_in_nI (by omega) (by omega)) d_La_law_689 ?_
          refine lv_topi (fun x276 _ => ?_)
          refine lv_i2l hx hb d_La_law_690 rfl ?_
          refine lv_topl (fun y277 _ => ?_)
          refine lv_bipush (v := nI 32) hx hb d_La_law_691 (by decide +kernel) ?_
          refine lv_lshl hx hb d_La_law_693 rfl ?_
          refine lv_topl (fun y278 _ => ?_)
          refine lv_aload_n hx hb d_La_law_694 rfl (lv_at hl 0 rfl) ?_
          refine lv_iload hx hb d_La_law_695 (lv_at hl 4 rfl) ?_
          refine lv_iconst (v := nI 3) hx hb d_La_law_697 (by decide +kernel) ?_
          refine lv_iadd hx hb d_La_law_698 ?_
          refine aw_ti (nI_add (6 * t) 3) ?_
          refine va_sld hx hb hX hbl hbA hS (i := (nI ((6 * t) + 3))) (vp_in_nI (by omega) (by omega)) d_La_law_699 ?_
          refine lv_topi (fun x279 _ => ?_)
          refine lv_i2l hx hb d_La_law_700 rfl ?_
          refine lv_topl (fun y280 _ => ?_)
          refine lv_ldc2 (v := 4294967295) hx hb hown (hG _ gw_13_3) d_La_law_701 ?_
          refine lv_land hx hb d_La_law_704 ?_
          refine lv_topl (fun y281 _ => ?_)
          refine lv_lor hx hb d_La_law_705 ?_
          refine lv_topl (fun y282 _ => ?_)
          refine va_calli (vx_runSW (As := [.ref (aw_r ad 0), .int (nI j), .long y282]) (rest := []) ⟨hx, hb, hml, hown, hG⟩ (k_La_seekXs l hst D g ad G G F N0 j y282 hj (by omega)) (aw_wW 3 hG gw_8_26 gw_8_24 gw_0_0 gw_8_25 rfl rfl hd_La_seek ⟨Nat.le_of_ble_eq_true rfl, Nat.le_of_ble_eq_true rfl⟩) (aw_qS hP hD hSh hU hS) rfl rfl hl.1 rfl (lv_room (Nat.le_of_ble_eq_true rfl)) d_La_law_706 ⟨by omega, by omega⟩) hS (fun _ _ h => h) (fun _ h => h) (fun x283 u8 t8 H locs ht _ hpx283 hB _ _ hS => ?_)
          obtain ⟨L, hP, hD, hSh⟩ := hB
          rw [ht] at hP
          clear ht
          subst hpx283
          refine lv_istore hx hb d_La_law_709 hl (by decide) rfl (fun ls hl => ?_)
          have hl : lv_has ls 8 [(5, .int (nI 2)), (0, .ref b), (1, .ref (aw_r ad 0)), (2, .ref (aw_m ad 0)), (3, .ref (aw_o ad)), (4, .int (nI (6 * t)))] := hl
          refine lv_aload_n hx hb d_La_law_711 rfl (lv_at hl 3 rfl) ?_
          refine lv_aload_n hx hb d_La_law_712 rfl (lv_at hl 1 rfl) ?_
          refine lv_iload hx hb d_La_law_713 (lv_at hl 5 rfl) ?_
          refine lv_iconst (v := nI 1) hx hb d_La_law_715 (by decide +kernel) ?_
          refine lv_iadd hx hb d_La_law_716 ?_
          refine aw_ti (nI_add (6 * t) 1) ?_
          refine va_sld hx hb hX hbl hbA hS (i := (nI ((6 * t) + 1))) (vp_in_nI (by omega) (by omega)) d_La_law_717 ?_
          refine aw_ti (y := nI j) (by rw [nI_clamp (by omega)]; exact hc0.symm) ?_
          refine lv_aload_n hx hb d_La_law_718 rfl (lv_at hl 1 rfl) ?_
          refine lv_iload hx hb d_La_law_719 (lv_at hl 5 rfl) ?_
          refine lv_iconst (v := nI 2) hx hb d_La_law_721 (by decide +kernel) ?_
          refine lv_iadd hx hb d_La_law_722 ?_
          refine aw_ti (nI_add (6 * t) 2) ?_
          refine va_sld hx hb hX hbl hbA hS (i := (nI ((6 * t) + 2))) (vp_in_nI (by omega) (by omega)) d_La_law_723 ?_
          refine lv_topi (fun x284 _ => ?_)
          refine lv_i2l hx hb d_La_law_724 rfl ?_
          refine lv_topl (fun y285 _ => ?_)
          refine lv_bipush (v := nI 32) hx hb d_La_law_725 (by decide +kernel) ?_
          refine lv_lshl hx hb d_La_law_727 rfl ?_
          refine lv_topl (fun y286 _ => ?_)
          refine lv_aload_n hx hb d_La_law_728 rfl (lv_at hl 1 rfl) ?_
          refine lv_iload hx hb d_La_law_729 (lv_at hl 5 rfl) ?_
          refine lv_iconst (v := nI 3) hx hb d_La_law_731 (by decide +kernel) ?_
          refine lv_iadd hx hb d_La_law_732 ?_
          refine aw_ti (nI_add (6 * t) 3) ?_
          refine va_sld hx hb hX hbl hbA hS (i := (nI ((6 * t) + 3))) (vp_in_nI (by omega) (by omega)) d_La_law_733 ?_
          refine lv_topi (fun x287 _ => ?_)
          refine lv_i2l hx hb d_La_law_734 rfl ?_
          refine lv_topl (fun y288 _ => ?_)
          refine lv_ldc2 (v := 4294967295) hx hb hown (hG _ gw_13_3) d_La_law_735 ?_
          refine lv_land hx hb d_La_law_738 ?_
          refine lv_topl (fun y289 _ => ?_)
          refine lv_lor hx hb d_La_law_739 ?_
          refine lv_topl (fun y290 _ => ?_)
          obtain ⟨_, _, _, he291⟩ := rd_M0 hSh
          refine va_callv (va_runV (As := [.int (nI j), .long y290]) (rest := []) ⟨hx, hb, hml, hown, hG⟩ (k_Mo_seekXs l D g ad G G F N0 j y290 hj (by omega)) (aw_wV 2 hG gw_12_45 gw_12_42 gw_0_10 gw_12_43 gw_12_44 rfl rfl hd_Mo_seek ⟨Nat.le_of_ble_eq_true rfl, Nat.le_of_ble_eq_true rfl⟩) (aw_qV (va_recv hK hP rfl he291) hP hD hSh hU hS) rfl rfl hl.1 rfl (lv_room (Nat.le_of_ble_eq_true rfl)) d_La_law_740 ⟨by omega, by omega⟩) hS (fun _ _ h => h) (fun _ h => h) (fun u8 t8 H locs ht _ _ hB _ _ hS => ?_)
          obtain ⟨L, hP, hD, hSh⟩ := hB
          rw [ht] at hP
          clear ht
          refine lv_aload_n hx hb d_La_law_743 rfl (lv_at hl 3 rfl) ?_
          obtain ⟨_, _, _, he292⟩ := rd_M0 hSh
          refine va_calli (va_runV (As := []) (rest := []) ⟨hx, hb, hml, hown, hG⟩ (k_Mo_thrown l D g ad G G (nI 2) N0) (aw_wV 0 hG gw_10_27 gw_10_24 gw_0_10 gw_10_25 gw_10_26 rfl rfl hd_Mo_thrown ⟨Nat.le_of_ble_eq_true rfl, Nat.le_of_ble_eq_true rfl⟩) (aw_qV (va_recv hK hP rfl he292) hP hD hSh hU hS) rfl rfl hl.1 rfl (lv_room (Nat.le_of_ble_eq_true rfl)) d_La_law_744 ⟨by omega, by omega⟩) hS (fun _ _ h => h) (fun _ h => h) (fun x293 u8 t8 H locs ht _ hpx293 hB _ _ hS => ?_)
          obtain ⟨L, hP, hD, hSh⟩ := hB
          rw [ht] at hP
          clear ht
          subst hpx293
          refine lv_iload hx hb d_La_law_747 (lv_at hl 0 rfl) ?_
          refine lv_icmp_eq (tgt := 754) hx hb d_La_law_749 (by decide) (fun _ => ?_) (fun h => absurd (by decide +kernel) h)
          refine lv_goto (tgt := 837) hx hb d_La_law_754 (by decide) ?_
          refine lv_iinc (k := 5) (v := nI (6 * t + 6)) hx hb d_La_law_837 hl rfl (aw_inc (6 * t) 6 6 (by decide +kernel)) (by decide) rfl (fun ls hl => ?_)
          have hl : lv_has ls 8 [(4, .int (nI (6 * t + 6))), (5, .int (nI 2)), (0, .ref b), (1, .ref (aw_r ad 0)), (2, .ref (aw_m ad 0)), (3, .ref (aw_o ad))] := hl
          refine lv_goto (tgt := 23) hx hb d_La_law_840 (by decide) ?_
          have hl := lv_sub hl (l' := [(0, .ref b), (1, .ref (aw_r ad 0)), (2, .ref (aw_m ad 0)), (3, .ref (aw_o ad)), (4, .int (nI (6 * t + 6)))]) [2, 3, 4, 5, 0] rfl
          refine W.widen (k := 85 + (t + 1)) (n := 1246 + 6 * (t + 1)) (by omega) (by omega) ?_
          exact ih (t + 1) G (nI 2) _ _ L ls (by omega) hP hD hSh hS (by first | exact hl | simpa [Nat.mul_add] using hl)
    · refine aw_ti (y := nI 11) (by rw [hs3]) ?_
      refine lv_tableIn (tgt := 757) (off := 717) hx hb d_La_law_40 (by decide +kernel) (by decide +kernel) (by decide +kernel) (by decide) ?_
      refine lv_aload_n hx hb d_La_law_757 rfl (lv_at hl 1 rfl) ?_
      refine lv_aload_n hx hb d_La_law_758 rfl (lv_at hl 0 rfl) ?_
      refine lv_iload hx hb d_La_law_759 (lv_at hl 4 rfl) ?_
      refine lv_iconst (v := nI 1) hx hb d_La_law_761 (by decide +kernel) ?_
      refine lv_iadd hx hb d_La_law_762 ?_
      refine aw_ti (nI_add (6 * t) 1) ?_
      refine va_sld hx hb hX hbl hbA hS (i := (nI ((6 * t) + 1))) (vp_in_nI (by omega) (by omega)) d_La_law_763 ?_
      refine lv_topi (fun x294 _ => ?_)
      refine lv_aload_n hx hb d_La_law_764 rfl (lv_at hl 0 rfl) ?_
      refine lv_iload hx hb d_La_law_765 (lv_at hl 4 rfl) ?_
      refine lv_iconst (v := nI 2) hx hb d_La_law_767 (by decide +kernel) ?_
      refine lv_iadd hx hb d_La_law_768 ?_
      refine aw_ti (nI_add (6 * t) 2) ?_
      refine va_sld hx hb hX hbl hbA hS (i := (nI ((6 * t) + 2))) (vp_in_nI (by omega) (by omega)) d_La_law_769 ?_
      refine lv_topi (fun x295 _ => ?_)
      refine lv_aload_n hx hb d_La_law_770 rfl (lv_at hl 0 rfl) ?_
      refine lv_iload hx hb d_La_law_771 (lv_at hl 4 rfl) ?_
      refine lv_iconst (v := nI 3) hx hb d_La_law_773 (by decide +kernel) ?_
      refine lv_iadd hx hb d_La_law_774 ?_
      refine aw_ti (nI_add (6 * t) 3) ?_
      refine va_sld hx hb hX hbl hbA hS (i := (nI ((6 * t) + 3))) (vp_in_nI (by omega) (by omega)) d_La_law_775 ?_
      refine lv_topi (fun x296 _ => ?_)
      refine lv_aload_n hx hb d_La_law_776 rfl (lv_at hl 3 rfl) ?_
      refine va_calli (vx_runSW (As := [.ref (aw_r ad 0), .int x294, .int x295, .int x296, .ref (aw_o ad)]) (rest := []) ⟨hx, hb, hml, hown, hG⟩ (k_La_takeJ l hst D g ad G G F N0 x294 x295 x296 hSh.2.2.2.2.1) (aw_wW 5 hG gw_8_40 gw_8_38 gw_0_0 gw_8_39 rfl rfl hd_La_take ⟨Nat.le_of_ble_eq_true rfl, Nat.le_of_ble_eq_true rfl⟩) (aw_qS hP hD hSh hU hS) rfl rfl hl.1 rfl (lv_room (Nat.le_of_ble_eq_true rfl)) d_La_law_777 ⟨by omega, by omega⟩) hS (fun _ _ h => h) (fun _ h => h) (fun x297 u8 t8 H locs ht _ _ hB _ _ hS => ?_)
      obtain ⟨L, hP, hD, hSh⟩ := hB
      rw [ht] at hP
      clear ht
      refine lv_istore hx hb d_La_law_780 hl (by decide) rfl (fun ls hl => ?_)
      have hl : lv_has ls 8 [(5, .int x297), (0, .ref b), (1, .ref (aw_r ad 0)), (2, .ref (aw_m ad 0)), (3, .ref (aw_o ad)), (4, .int (nI (6 * t)))] := hl
      refine lv_aload_n hx hb d_La_law_782 rfl (lv_at hl 3 rfl) ?_
      refine lv_aload_n hx hb d_La_law_783 rfl (lv_at hl 1 rfl) ?_
      refine lv_iload hx hb d_La_law_784 (lv_at hl 5 rfl) ?_
      refine lv_iconst (v := nI 1) hx hb d_La_law_786 (by decide +kernel) ?_
      refine lv_iadd hx hb d_La_law_787 ?_
      refine aw_ti (nI_add (6 * t) 1) ?_
      refine va_sld hx hb hX hbl hbA hS (i := (nI ((6 * t) + 1))) (vp_in_nI (by omega) (by omega)) d_La_law_788 ?_
      refine lv_topi (fun x298 _ => ?_)
      refine lv_aload_n hx hb d_La_law_789 rfl (lv_at hl 1 rfl) ?_
      refine lv_iload hx hb d_La_law_790 (lv_at hl 5 rfl) ?_
      refine lv_iconst (v := nI 2) hx hb d_La_law_792 (by decide +kernel) ?_
      refine lv_iadd hx hb d_La_law_793 ?_
      refine aw_ti (nI_add (6 * t) 2) ?_
      refine va_sld hx hb hX hbl hbA hS (i := (nI ((6 * t) + 2))) (vp_in_nI (by omega) (by omega)) d_La_law_794 ?_
      refine lv_topi (fun x299 _ => ?_)
      refine lv_aload_n hx hb d_La_law_795 rfl (lv_at hl 1 rfl) ?_
      refine lv_iload hx hb d_La_law_796 (lv_at hl 5 rfl) ?_
      refine lv_iconst (v := nI 3) hx hb d_La_law_798 (by decide +kernel) ?_
      refine lv_iadd hx hb d_La_law_799 ?_
      refine aw_ti (nI_add (6 * t) 3) ?_
      refine va_sld hx hb hX hbl hbA hS (i := (nI ((6 * t) + 3))) (vp_in_nI (by omega) (by omega)) d_La_law_800 ?_
      refine lv_topi (fun x300 _ => ?_)
      obtain ⟨_, _, _, he301⟩ := rd_M0 hSh
      refine va_calli (va_runV (As := [.int x298, .int x299, .int x300]) (rest := []) ⟨hx, hb, hml, hown, hG⟩ (k_Mo_takeJ l D g ad G G F N0 x298 x299 x300 hSh.2.2.2.2.2) (aw_wV 3 hG gw_12_49 gw_12_46 gw_0_10 gw_12_47 gw_12_48 rfl rfl hd_Mo_take ⟨Nat.le_of_ble_eq_true rfl, Nat.le_of_ble_eq_true rfl⟩) (aw_qV (va_recv hK hP rfl he301) hP hD hSh hU hS) rfl rfl hl.1 rfl (lv_room (Nat.le_of_ble_eq_true rfl)) d_La_law_801 ⟨by omega, by omega⟩) hS (fun _ _ h => h) (fun _ h => h) (fun x302 u8 t8 H locs ht _ _ hB _ _ hS => ?_)
      obtain ⟨F303, L, hP, hD, hSh⟩ := hB
      rw [ht] at hP
      clear ht
      refine lv_istore hx hb d_La_law_804 hl (by decide) rfl (fun ls hl => ?_)
      have hl : lv_has ls 8 [(6, .int x302), (5, .int x297), (0, .ref b), (1, .ref (aw_r ad 0)), (2, .ref (aw_m ad 0)), (3, .ref (aw_o ad)), (4, .int (nI (6 * t)))] := hl
      refine lv_goto (tgt := 837) hx hb d_La_law_806 (by decide) ?_
      refine lv_iinc (k := 6) (v := nI (6 * t + 6)) hx hb d_La_law_837 hl rfl (aw_inc (6 * t) 6 6 (by decide +kernel)) (by decide) rfl (fun ls hl => ?_)
      have hl : lv_has ls 8 [(4, .int (nI (6 * t + 6))), (6, .int x302), (5, .int x297), (0, .ref b), (1, .ref (aw_r ad 0)), (2, .ref (aw_m ad 0)), (3, .ref (aw_o ad))] := hl
      refine lv_goto (tgt := 23) hx hb d_La_law_840 (by decide) ?_
      have hl := lv_sub hl (l' := [(0, .ref b), (1, .ref (aw_r ad 0)), (2, .ref (aw_m ad 0)), (3, .ref (aw_o ad)), (4, .int (nI (6 * t + 6)))]) [3, 4, 5, 6, 0] rfl
      refine W.widen (k := 85 + (t + 1)) (n := 1246 + 6 * (t + 1)) (by omega) (by omega) ?_
      exact ih (t + 1) G F303 _ _ L ls (by omega) hP hD hSh hS (by first | exact hl | simpa [Nat.mul_add] using hl)
    · refine aw_ti (y := nI 12) (by rw [hs3]) ?_
      refine lv_tableIn (tgt := 809) (off := 769) hx hb d_La_law_40 (by decide +kernel) (by decide +kernel) (by decide +kernel) (by decide) ?_
      refine lv_aload_n hx hb d_La_law_809 rfl (lv_at hl 1 rfl) ?_
      refine lv_aload_n hx hb d_La_law_810 rfl (lv_at hl 0 rfl) ?_
      refine lv_iload hx hb d_La_law_811 (lv_at hl 4 rfl) ?_
      refine lv_iconst (v := nI 1) hx hb d_La_law_813 (by decide +kernel) ?_
      refine lv_iadd hx hb d_La_law_814 ?_
      refine aw_ti (nI_add (6 * t) 1) ?_
      refine va_sld hx hb hX hbl hbA hS (i := (nI ((6 * t) + 1))) (vp_in_nI (by omega) (by omega)) d_La_law_815 ?_
      refine lv_topi (fun x304 _ => ?_)
      refine lv_aload_n hx hb d_La_law_816 rfl (lv_at hl 3 rfl) ?_
      refine va_calli (vx_runSW (As := [.ref (aw_r ad 0), .int x304, .ref (aw_o ad)]) (rest := []) ⟨hx, hb, hml, hown, hG⟩ (k_La_tagJ l hst D g ad G G F N0 x304 hSh.2.2.2.2.1) (aw_wW 3 hG gw_9_2 gw_9_0 gw_0_0 gw_9_1 rfl rfl hd_La_tag ⟨Nat.le_of_ble_eq_true rfl, Nat.le_of_ble_eq_true rfl⟩) (aw_qS hP hD hSh hU hS) rfl rfl hl.1 rfl (lv_room (Nat.le_of_ble_eq_true rfl)) d_La_law_817 ⟨by omega, by omega⟩) hS (fun _ _ h => h) (fun _ h => h) (fun x305 u8 t8 H locs ht _ _ hB _ _ hS => ?_)
      obtain ⟨L, hP, hD, hSh⟩ := hB
      rw [ht] at hP
      clear ht
      refine lv_istore hx hb d_La_law_820 hl (by decide) rfl (fun ls hl => ?_)
      have hl : lv_has ls 8 [(5, .int x305), (0, .ref b), (1, .ref (aw_r ad 0)), (2, .ref (aw_m ad 0)), (3, .ref (aw_o ad)), (4, .int (nI (6 * t)))] := hl
      refine lv_aload_n hx hb d_La_law_822 rfl (lv_at hl 3 rfl) ?_
      refine lv_aload_n hx hb d_La_law_823 rfl (lv_at hl 1 rfl) ?_
      refine lv_iload hx hb d_La_law_824 (lv_at hl 5 rfl) ?_
      refine lv_iconst (v := nI 1) hx hb d_La_law_826 (by decide +kernel) ?_
      refine lv_iadd hx hb d_La_law_827 ?_
      refine aw_ti (nI_add (6 * t) 1) ?_
      refine va_sld hx hb hX hbl hbA hS (i := (nI ((6 * t) + 1))) (vp_in_nI (by omega) (by omega)) d_La_law_828 ?_
      refine lv_topi (fun x306 _ => ?_)
      obtain ⟨_, _, _, he307⟩ := rd_M0 hSh
      refine va_calll (va_runV (As := [.int x306]) (rest := []) ⟨hx, hb, hml, hown, hG⟩ (k_Mo_tagJ l D g ad G G F N0 x306 hSh.2.2.2.2.2) (aw_wV 1 hG gw_12_56 gw_12_53 gw_0_10 gw_12_54 gw_12_55 rfl rfl hd_Mo_tag ⟨Nat.le_of_ble_eq_true rfl, Nat.le_of_ble_eq_true rfl⟩) (aw_qV (va_recv hK hP rfl he307) hP hD hSh hU hS) rfl rfl hl.1 rfl (lv_room (Nat.le_of_ble_eq_true rfl)) d_La_law_829 ⟨by omega, by omega⟩) hS (fun _ _ h => h) (fun _ h => h) (fun y308 u8 t8 H locs ht _ _ hB _ _ hS => ?_)
      obtain ⟨F309, L, hP, hD, hSh⟩ := hB
      rw [ht] at hP
      clear ht
      refine lv_lstore hx hb d_La_law_832 hl (by decide) rfl (fun ls hl => ?_)
      have hl : lv_has ls 8 [(6, .long y308), (5, .int x305), (0, .ref b), (1, .ref (aw_r ad 0)), (2, .ref (aw_m ad 0)), (3, .ref (aw_o ad)), (4, .int (nI (6 * t)))] := hl
      refine lv_goto (tgt := 837) hx hb d_La_law_834 (by decide) ?_
      refine lv_iinc (k := 6) (v := nI (6 * t + 6)) hx hb d_La_law_837 hl rfl (aw_inc (6 * t) 6 6 (by decide +kernel)) (by decide) rfl (fun ls hl => ?_)
      have hl : lv_has ls 8 [(4, .int (nI (6 * t + 6))), (6, .long y308), (5, .int x305), (0, .ref b), (1, .ref (aw_r ad 0)), (2, .ref (aw_m ad 0)), (3, .ref (aw_o ad))] := hl
      refine lv_goto (tgt := 23) hx hb d_La_law_840 (by decide) ?_
      have hl := lv_sub hl (l' := [(0, .ref b), (1, .ref (aw_r ad 0)), (2, .ref (aw_m ad 0)), (3, .ref (aw_o ad)), (4, .int (nI (6 * t + 6)))]) [3, 4, 5, 6, 0] rfl
      refine W.widen (k := 85 + (t + 1)) (n := 1246 + 6 * (t + 1)) (by omega) (by omega) ?_
      exact ih (t + 1) G F309 _ _ L ls (by omega) hP hD hSh hS (by first | exact hl | simpa [Nat.mul_add] using hl)
    · refine aw_ti (y := nI 13) (by rw [hs3]) ?_
      refine lv_tableOut (tgt := 837) hx hb d_La_law_40 (by decide +kernel) (by decide) ?_
      refine lv_iinc (k := 4) (v := nI (6 * t + 6)) hx hb d_La_law_837 hl rfl (aw_inc (6 * t) 6 6 (by decide +kernel)) (by decide) rfl (fun ls hl => ?_)
      have hl : lv_has ls 8 [(4, .int (nI (6 * t + 6))), (0, .ref b), (1, .ref (aw_r ad 0)), (2, .ref (aw_m ad 0)), (3, .ref (aw_o ad))] := hl
      refine lv_goto (tgt := 23) hx hb d_La_law_840 (by decide) ?_
      have hl := lv_sub hl (l' := [(0, .ref b), (1, .ref (aw_r ad 0)), (2, .ref (aw_m ad 0)), (3, .ref (aw_o ad)), (4, .int (nI (6 * t + 6)))]) [1, 2, 3, 4, 0] rfl
      refine W.widen (k := 85 + (t + 1)) (n := 1246 + 6 * (t + 1)) (by omega) (by omega) ?_
      exact ih (t + 1) G F _ _ L ls (by omega) hP hD hSh hS (by first | exact hl | simpa [Nat.mul_add] using hl)
    · refine aw_ti (y := nI 14) (by rw [hs3]) ?_
      refine lv_tableOut (tgt := 837) hx hb d_La_law_40 (by decide +kernel) (by decide) ?_
      refine lv_iinc (k := 4) (v := nI (6 * t + 6)) hx hb d_La_law_837 hl rfl (aw_inc (6 * t) 6 6 (by decide +kernel)) (by decide) rfl (fun ls hl => ?_)
      have hl : lv_has ls 8 [(4, .int (nI (6 * t + 6))), (0, .ref b), (1, .ref (aw_r ad 0)), (2, .ref (aw_m ad 0)), (3, .ref (aw_o ad))] := hl
      refine lv_goto (tgt := 23) hx hb d_La_law_840 (by decide) ?_
      have hl := lv_sub hl (l' := [(0, .ref b), (1, .ref (aw_r ad 0)), (2, .ref (aw_m ad 0)), (3, .ref (aw_o ad)), (4, .int (nI (6 * t + 6)))]) [1, 2, 3, 4, 0] rfl
      refine W.widen (k := 85 + (t + 1)) (n := 1246 + 6 * (t + 1)) (by omega) (by omega) ?_
      exact ih (t + 1) G F _ _ L ls (by omega) hP hD hSh hS (by first | exact hl | simpa [Nat.mul_add] using hl)
    · refine aw_ti (y := nI 15) (by rw [hs3]) ?_
      refine lv_tableOut (tgt := 837) hx hb d_La_law_40 (by decide +kernel) (by decide) ?_
      refine lv_iinc (k := 4) (v := nI (6 * t + 6)) hx hb d_La_law_837 hl rfl (aw_inc (6 * t) 6 6 (by decide +kernel)) (by decide) rfl (fun ls hl => ?_)
      have hl : lv_has ls 8 [(4, .int (nI (6 * t + 6))), (0, .ref b), (1, .ref (aw_r ad 0)), (2, .ref (aw_m ad 0)), (3, .ref (aw_o ad))] := hl
      refine lv_goto (tgt := 23) hx hb d_La_law_840 (by decide) ?_
      have hl := lv_sub hl (l' := [(0, .ref b), (1, .ref (aw_r ad 0)), (2, .ref (aw_m ad 0)), (3, .ref (aw_o ad)), (4, .int (nI (6 * t + 6)))]) [1, 2, 3, 4, 0] rfl
      refine W.widen (k := 85 + (t + 1)) (n := 1246 + 6 * (t + 1)) (by omega) (by omega) ?_
      exact ih (t + 1) G F _ _ L ls (by omega) hP hD hSh hS (by first | exact hl | simpa [Nat.mul_add] using hl)
