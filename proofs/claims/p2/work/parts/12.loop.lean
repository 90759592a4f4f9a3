set_option maxHeartbeats 40000000 in
set_option maxRecDepth 100000 in
theorem law_loop {p : Program} {e : Env} {s : State} {m : MethodId} {below : List Frame} {meth : Method} {c : Code} (l : Launch) (hst : l.stackTraces = false) {b Ln : Nat} {xs : Nat → Int32} (hLn : Ln ≤ 3072) (C0 : lw_At p s m meth c b Ln xs) {D : va_G} {g : Nat → ClassId} {ad : Nat → Nat} {N0 : Nat} (hN0e : N0 = s.heap.size) (hU : aw_U D g N0 s) :
    ∀ (d t : Nat) (G : Nat → Nat × Nat) (F : Int32) (H : Heap) (locs : List Loc) (L : va_W) (ls : Array Slot), t + d = Ln / 6 → va_P D aw_C L H → va_D (aw_Z N0) L → aw_Sh g ad G G F L → va_S (aw_Z N0) s.heap H locs → lv_has ls 8 [(0, .ref b), (1, .ref (aw_r ad 0)), (2, .ref (aw_m ad 0)), (3, .ref (aw_o ad)), (4, .int (nI (6 * t)))] → W p l e room_1 s m #[Value.ref b] below meth c H locs (85 + t) (1246 + 6 * t) (lw_Z below #[Value.ref b] s) (F0 m 23 ls []) := by
  obtain ⟨hx, hb, hr, hml, hown, hts, hX, hbl, hlocks, hgv⟩ := C0
  have hown : s.vm.findClass "RuleCiphersLaw" = some m.cls := hown
  have hG : ∀ w ∈ aw_G, w.before #[Value.ref b] s = true := fun w h => hts w (aw_GL w h)
  have hbA : ¬ aw_Z N0 b := fun h => by have h9 : N0 ≤ b := h; omega
  have hR1 : room_1.cells = 613841 := rfl
  have hR2 : room_1.slots = 7254581 := rfl
  have hE := hU.1
  have hK := hE.1
  have hN := hE.2.1
  intro d
  induction d with
  | zero =>
    intro t G F H locs L ls ht0 hP hD hSh hS hl
    by_cases h6 : 6 ≤ Ln
    · refine lv_iload hx hb d_La_law_23 (lv_at hl 4 rfl) ?_
      refine lv_aload_n hx hb d_La_law_25 rfl (lv_at hl 0 rfl) ?_
      refine va_slen hx hb hX hbl hbA hS d_La_law_26 ?_
      refine aw_ti (y := nI Ln) rfl ?_
      refine lv_bipush (v := nI 6) hx hb d_La_law_27 (by decide +kernel) ?_
      refine lv_isub hx hb d_La_law_29 ?_
      refine aw_ti (pk_sub (a := Ln) (b := 6) (by omega)) ?_
      refine lv_icmp_gt (tgt := 843) hx hb d_La_law_30 (by decide) (fun _ => ?_) (fun h => absurd (show nI (Ln - 6) < nI (6 * t) from (nI_ltI (by omega) (by omega)).mpr (by omega)) h)
      refine lv_iconst (v := 1) hx hb d_La_law_843 (by decide +kernel) ?_
      refine va_forget (fun q hq => by have h9 := hS.2.2 q hq; rw [← hN0e]; exact h9) ?_
      refine W.widen (k := 613841) (n := 7254581) (by omega) (by omega) ?_
      exact lw_ret hx hb hr hlocks d_La_law_844
    · have ht1 : t = 0 := by omega
      subst ht1
      refine lv_iload hx hb d_La_law_23 (lv_at hl 4 rfl) ?_
      refine lv_aload_n hx hb d_La_law_25 rfl (lv_at hl 0 rfl) ?_
      refine va_slen hx hb hX hbl hbA hS d_La_law_26 ?_
      refine aw_ti (y := nI Ln) rfl ?_
      refine lv_bipush (v := nI 6) hx hb d_La_law_27 (by decide +kernel) ?_
      refine lv_isub hx hb d_La_law_29 ?_
      refine lv_icmp_gt (tgt := 843) hx hb d_La_law_30 (by decide) (fun _ => ?_) (fun h => absurd (show nI Ln - nI 6 < nI (6 * 0) from pk_sneg (by decide) (by omega)) h)
      refine lv_iconst (v := 1) hx hb d_La_law_843 (by decide +kernel) ?_
      refine va_forget (fun q hq => by have h9 := hS.2.2 q hq; rw [← hN0e]; exact h9) ?_
      refine W.widen (k := 613841) (n := 7254581) (by omega) (by omega) ?_
      exact lw_ret hx hb hr hlocks d_La_law_844
  | succ d ih =>
    intro t G F H locs L ls ht0 hP hD hSh hS hl
    refine lv_iload hx hb d_La_law_23 (lv_at hl 4 rfl) ?_
    refine lv_aload_n hx hb d_La_law_25 rfl (lv_at hl 0 rfl) ?_
    refine va_slen hx hb hX hbl hbA hS d_La_law_26 ?_
    refine aw_ti (y := nI Ln) rfl ?_
    refine lv_bipush (v := nI 6) hx hb d_La_law_27 (by decide +kernel) ?_
    refine lv_isub hx hb d_La_law_29 ?_
    refine aw_ti (pk_sub (a := Ln) (b := 6) (by omega)) ?_
    refine lv_icmp_gt (tgt := 843) hx hb d_La_law_30 (by decide) (fun h => absurd h (show ¬ nI (Ln - 6) < nI (6 * t) from fun h9 => absurd ((nI_ltI (by omega) (by omega)).mp h9) (by omega))) (fun _ => ?_)
    refine lv_aload_n hx hb d_La_law_33 rfl (lv_at hl 0 rfl) ?_
    refine lv_iload hx hb d_La_law_34 (lv_at hl 4 rfl) ?_
    refine va_sld hx hb hX hbl hbA hS (i := (nI (6 * t))) (vp_in_nI (by omega) (by omega)) d_La_law_36 ?_
    refine lv_topi (fun x1 _ => ?_)
    refine lv_bipush (v := nI 15) hx hb d_La_law_37 (by decide +kernel) ?_
    refine lv_iand hx hb d_La_law_39 ?_
    obtain ⟨k2, hk2, ek2⟩ := pk_andE x1 (m := nI 15) 4 (by decide +kernel)
    refine aw_ti ek2 ?_
    rcases (by omega : k2 = 0 ∨ k2 = 1 ∨ k2 = 2 ∨ k2 = 3 ∨ k2 = 4 ∨ k2 = 5 ∨ k2 = 6 ∨ k2 = 7 ∨ k2 = 8 ∨ k2 = 9 ∨ k2 = 10 ∨ k2 = 11 ∨ k2 = 12 ∨ k2 = 13 ∨ k2 = 14 ∨ k2 = 15) with hs3 | hs3 | hs3 | hs3 | hs3 | hs3 | hs3 | hs3 | hs3 | hs3 | hs3 | hs3 | hs3 | hs3 | hs3 | hs3
    · refine aw_ti (y := nI 0) (by rw [hs3]) ?_
      refine lv_tableIn (tgt := 108) (off := 68) hx hb d_La_law_40 (by decide +kernel) (by decide +kernel) (by decide +kernel) (by decide) ?_
      obtain ⟨c0, hc0⟩ : ∃ z : Int32, z = xs (6 * t + 1) := ⟨_, rfl⟩
      obtain ⟨k0, hk0⟩ : ∃ z : Int32, z = xs (6 * t + 2) := ⟨_, rfl⟩
      rcases aw_rng 4 (by decide) c0 with hc | ⟨j, hj, rfl⟩
      · refine lv_aload_n hx hb d_La_law_108 rfl (lv_at hl 1 rfl) ?_
        refine lv_aload_n hx hb d_La_law_109 rfl (lv_at hl 0 rfl) ?_
        refine lv_iload hx hb d_La_law_110 (lv_at hl 4 rfl) ?_
        refine lv_iconst (v := nI 1) hx hb d_La_law_112 (by decide +kernel) ?_
        refine lv_iadd hx hb d_La_law_113 ?_
        refine aw_ti (nI_add (6 * t) 1) ?_
        refine va_sld hx hb hX hbl hbA hS (i := (nI ((6 * t) + 1))) (vp_in_nI (by omega) (by omega)) d_La_law_114 ?_
        refine aw_ti (y := c0) (by rw [nI_clamp (by omega)]; exact hc0.symm) ?_
        refine lv_aload_n hx hb d_La_law_115 rfl (lv_at hl 0 rfl) ?_
        refine lv_iload hx hb d_La_law_116 (lv_at hl 4 rfl) ?_
        refine lv_iconst (v := nI 2) hx hb d_La_law_118 (by decide +kernel) ?_
        refine lv_iadd hx hb d_La_law_119 ?_
        refine aw_ti (nI_add (6 * t) 2) ?_
        refine va_sld hx hb hX hbl hbA hS (i := (nI ((6 * t) + 2))) (vp_in_nI (by omega) (by omega)) d_La_law_120 ?_
        refine aw_ti (y := k0) (by rw [nI_clamp (by omega)]; exact hk0.symm) ?_
        refine va_calli (vx_runSW (As := [.ref (aw_r ad 0), .int c0, .int k0]) (rest := []) ⟨hx, hb, hml, hown, hG⟩ (k_La_chooseXc l hst D g ad G G F N0 c0 k0 hc) (aw_wW 3 hG gw_2_37 gw_2_35 gw_0_0 gw_2_36 rfl rfl hd_La_choose ⟨Nat.le_of_ble_eq_true rfl, Nat.le_of_ble_eq_true rfl⟩) (aw_qS hP hD hSh hU hS) rfl rfl hl.1 rfl (lv_room (Nat.le_of_ble_eq_true rfl)) d_La_law_121 ⟨by omega, by omega⟩) hS (fun _ _ h => h) (fun _ h => h) (fun x4 u8 t8 H locs ht _ hpx4 hB _ _ hS => ?_)
        obtain ⟨L, hP, hD, hSh⟩ := hB
        rw [ht] at hP
        clear ht
        subst hpx4
        refine lv_istore hx hb d_La_law_124 hl (by decide) rfl (fun ls hl => ?_)
        have hl : lv_has ls 8 [(5, .int (nI 1)), (0, .ref b), (1, .ref (aw_r ad 0)), (2, .ref (aw_m ad 0)), (3, .ref (aw_o ad)), (4, .int (nI (6 * t)))] := hl
        refine lv_aload_n hx hb d_La_law_126 rfl (lv_at hl 3 rfl) ?_
        refine lv_aload_n hx hb d_La_law_127 rfl (lv_at hl 1 rfl) ?_
        refine lv_iload hx hb d_La_law_128 (lv_at hl 5 rfl) ?_
        refine lv_iconst (v := nI 1) hx hb d_La_law_130 (by decide +kernel) ?_
        refine lv_iadd hx hb d_La_law_131 ?_
        refine aw_ti (nI_add (6 * t) 1) ?_
        refine va_sld hx hb hX hbl hbA hS (i := (nI ((6 * t) + 1))) (vp_in_nI (by omega) (by omega)) d_La_law_132 ?_
        refine aw_ti (y := c0) (by rw [nI_clamp (by omega)]; exact hc0.symm) ?_
        refine lv_aload_n hx hb d_La_law_133 rfl (lv_at hl 1 rfl) ?_
        refine lv_iload hx hb d_La_law_134 (lv_at hl 5 rfl) ?_
        refine lv_iconst (v := nI 2) hx hb d_La_law_136 (by decide +kernel) ?_
        refine lv_iadd hx hb d_La_law_137 ?_
        refine aw_ti (nI_add (6 * t) 2) ?_
        refine va_sld hx hb hX hbl hbA hS (i := (nI ((6 * t) + 2))) (vp_in_nI (by omega) (by omega)) d_La_law_138 ?_
        refine aw_ti (y := k0) (by rw [nI_clamp (by omega)]; exact hk0.symm) ?_
        obtain ⟨_, _, _, he5⟩ := rd_M0 hSh
        refine va_callv (va_runV (As := [.int c0, .int k0]) (rest := []) ⟨hx, hb, hml, hown, hG⟩ (k_Mo_chooseXc l D g ad G G F N0 c0 k0 hc) (aw_wV 2 hG gw_10_31 gw_10_28 gw_0_10 gw_10_29 gw_10_30 rfl rfl hd_Mo_choose ⟨Nat.le_of_ble_eq_true rfl, Nat.le_of_ble_eq_true rfl⟩) (aw_qV (va_recv hK hP rfl he5) hP hD hSh hU hS) rfl rfl hl.1 rfl (lv_room (Nat.le_of_ble_eq_true rfl)) d_La_law_139 ⟨by omega, by omega⟩) hS (fun _ _ h => h) (fun _ h => h) (fun u8 t8 H locs ht _ _ hB _ _ hS => ?_)
        obtain ⟨L, hP, hD, hSh⟩ := hB
        rw [ht] at hP
        clear ht
        refine lv_aload_n hx hb d_La_law_142 rfl (lv_at hl 3 rfl) ?_
        obtain ⟨_, _, _, he6⟩ := rd_M0 hSh
        refine va_calli (va_runV (As := []) (rest := []) ⟨hx, hb, hml, hown, hG⟩ (k_Mo_thrown l D g ad G G (nI 1) N0) (aw_wV 0 hG gw_10_27 gw_10_24 gw_0_10 gw_10_25 gw_10_26 rfl rfl hd_Mo_thrown ⟨Nat.le_of_ble_eq_true rfl, Nat.le_of_ble_eq_true rfl⟩) (aw_qV (va_recv hK hP rfl he6) hP hD hSh hU hS) rfl rfl hl.1 rfl (lv_room (Nat.le_of_ble_eq_true rfl)) d_La_law_143 ⟨by omega, by omega⟩) hS (fun _ _ h => h) (fun _ h => h) (fun x7 u8 t8 H locs ht _ hpx7 hB _ _ hS => ?_)
        obtain ⟨L, hP, hD, hSh⟩ := hB
        rw [ht] at hP
        clear ht
        subst hpx7
        refine lv_iload hx hb d_La_law_146 (lv_at hl 0 rfl) ?_
        refine lv_icmp_eq (tgt := 153) hx hb d_La_law_148 (by decide) (fun _ => ?_) (fun h => absurd (by decide +kernel) h)
        refine lv_goto (tgt := 837) hx hb d_La_law_153 (by decide) ?_
        refine lv_iinc (k := 5) (v := nI (6 * t + 6)) hx hb d_La_law_837 hl rfl (aw_inc (6 * t) 6 6 (by decide +kernel)) (by decide) rfl (fun ls hl => ?_)
        have hl : lv_has ls 8 [(4, .int (nI (6 * t + 6))), (5, .int (nI 1)), (0, .ref b), (1, .ref (aw_r ad 0)), (2, .ref (aw_m ad 0)), (3, .ref (aw_o ad))] := hl
        refine lv_goto (tgt := 23) hx hb d_La_law_840 (by decide) ?_
        have hl := lv_sub hl (l' := [(0, .ref b), (1, .ref (aw_r ad 0)), (2, .ref (aw_m ad 0)), (3, .ref (aw_o ad)), (4, .int (nI (6 * t + 6)))]) [2, 3, 4, 5, 0] rfl
        refine W.widen (k := 85 + (t + 1)) (n := 1246 + 6 * (t + 1)) (by omega) (by omega) ?_
        exact ih (t + 1) G (nI 1) _ _ L ls (by omega) hP hD hSh hS (by first | exact hl | simpa [Nat.mul_add] using hl)
      · have hgj := hSh.2.2.2.2.1 j hj
        rcases aw_rng 5 (by decide) k0 with hk | ⟨k, hk, rfl⟩
        · refine lv_aload_n hx hb d_La_law_108 rfl (lv_at hl 1 rfl) ?_
          refine lv_aload_n hx hb d_La_law_109 rfl (lv_at hl 0 rfl) ?_
          refine lv_iload hx hb d_La_law_110 (lv_at hl 4 rfl) ?_
          refine lv_iconst (v := nI 1) hx hb d_La_law_112 (by decide +kernel) ?_
          refine lv_iadd hx hb d_La_law_113 ?_
          refine aw_ti (nI_add (6 * t) 1) ?_
          refine va_sld hx hb hX hbl hbA hS (i := (nI ((6 * t) + 1))) (vp_in_nI (by omega) (by omega)) d_La_law_114 ?_
          refine aw_ti (y := nI j) (by rw [nI_clamp (by omega)]; exact hc0.symm) ?_
          refine lv_aload_n hx hb d_La_law_115 rfl (lv_at hl 0 rfl) ?_
          refine lv_iload hx hb d_La_law_116 (lv_at hl 4 rfl) ?_
          refine lv_iconst (v := nI 2) hx hb d_La_law_118 (by decide +kernel) ?_
          refine lv_iadd hx hb d_La_law_119 ?_
          refine aw_ti (nI_add (6 * t) 2) ?_
          refine va_sld hx hb hX hbl hbA hS (i := (nI ((6 * t) + 2))) (vp_in_nI (by omega) (by omega)) d_La_law_120 ?_
          refine aw_ti (y := k0) (by rw [nI_clamp (by omega)]; exact hk0.symm) ?_
          refine va_calli (vx_runSW (As := [.ref (aw_r ad 0), .int (nI j), .int k0]) (rest := []) ⟨hx, hb, hml, hown, hG⟩ (k_La_chooseXa l hst D g ad G G F N0 j k0 hj hk) (aw_wW 3 hG gw_2_37 gw_2_35 gw_0_0 gw_2_36 rfl rfl hd_La_choose ⟨Nat.le_of_ble_eq_true rfl, Nat.le_of_ble_eq_true rfl⟩) (aw_qS hP hD hSh hU hS) rfl rfl hl.1 rfl (lv_room (Nat.le_of_ble_eq_true rfl)) d_La_law_121 ⟨by omega, by omega⟩) hS (fun _ _ h => h) (fun _ h => h) (fun x8 u8 t8 H locs ht _ hpx8 hB _ _ hS => ?_)
          obtain ⟨L, hP, hD, hSh⟩ := hB
          rw [ht] at hP
          clear ht
          subst hpx8
          refine lv_istore hx hb d_La_law_124 hl (by decide) rfl (fun ls hl => ?_)
          have hl : lv_has ls 8 [(5, .int (nI 2)), (0, .ref b), (1, .ref (aw_r ad 0)), (2, .ref (aw_m ad 0)), (3, .ref (aw_o ad)), (4, .int (nI (6 * t)))] := hl
          refine lv_aload_n hx hb d_La_law_126 rfl (lv_at hl 3 rfl) ?_
          refine lv_aload_n hx hb d_La_law_127 rfl (lv_at hl 1 rfl) ?_
          refine lv_iload hx hb d_La_law_128 (lv_at hl 5 rfl) ?_
          refine lv_iconst (v := nI 1) hx hb d_La_law_130 (by decide +kernel) ?_
          refine lv_iadd hx hb d_La_law_131 ?_
          refine aw_ti (nI_add (6 * t) 1) ?_
          refine va_sld hx hb hX hbl hbA hS (i := (nI ((6 * t) + 1))) (vp_in_nI (by omega) (by omega)) d_La_law_132 ?_
          refine aw_ti (y := nI j) (by rw [nI_clamp (by omega)]; exact hc0.symm) ?_
          refine lv_aload_n hx hb d_La_law_133 rfl (lv_at hl 1 rfl) ?_
          refine lv_iload hx hb d_La_law_134 (lv_at hl 5 rfl) ?_
          refine lv_iconst (v := nI 2) hx hb d_La_law_136 (by decide +kernel) ?_
          refine lv_iadd hx hb d_La_law_137 ?_
          refine aw_ti (nI_add (6 * t) 2) ?_
          refine va_sld hx hb hX hbl hbA hS (i := (nI ((6 * t) + 2))) (vp_in_nI (by omega) (by omega)) d_La_law_138 ?_
          refine aw_ti (y := k0) (by rw [nI_clamp (by omega)]; exact hk0.symm) ?_
          obtain ⟨_, _, _, he9⟩ := rd_M0 hSh
          refine va_callv (va_runV (As := [.int (nI j), .int k0]) (rest := []) ⟨hx, hb, hml, hown, hG⟩ (k_Mo_chooseXa l D g ad G G F N0 j k0 hj (aw_bnd 4 (by decide) hk)) (aw_wV 2 hG gw_10_31 gw_10_28 gw_0_10 gw_10_29 gw_10_30 rfl rfl hd_Mo_choose ⟨Nat.le_of_ble_eq_true rfl, Nat.le_of_ble_eq_true rfl⟩) (aw_qV (va_recv hK hP rfl he9) hP hD hSh hU hS) rfl rfl hl.1 rfl (lv_room (Nat.le_of_ble_eq_true rfl)) d_La_law_139 ⟨by omega, by omega⟩) hS (fun _ _ h => h) (fun _ h => h) (fun u8 t8 H locs ht _ _ hB _ _ hS => ?_)
          obtain ⟨L, hP, hD, hSh⟩ := hB
          rw [ht] at hP
          clear ht
          refine lv_aload_n hx hb d_La_law_142 rfl (lv_at hl 3 rfl) ?_
          obtain ⟨_, _, _, he10⟩ := rd_M0 hSh
          refine va_calli (va_runV (As := []) (rest := []) ⟨hx, hb, hml, hown, hG⟩ (k_Mo_thrown l D g ad G G (nI 2) N0) (aw_wV 0 hG gw_10_27 gw_10_24 gw_0_10 gw_10_25 gw_10_26 rfl rfl hd_Mo_thrown ⟨Nat.le_of_ble_eq_true rfl, Nat.le_of_ble_eq_true rfl⟩) (aw_qV (va_recv hK hP rfl he10) hP hD hSh hU hS) rfl rfl hl.1 rfl (lv_room (Nat.le_of_ble_eq_true rfl)) d_La_law_143 ⟨by omega, by omega⟩) hS (fun _ _ h => h) (fun _ h => h) (fun x11 u8 t8 H locs ht _ hpx11 hB _ _ hS => ?_)
          obtain ⟨L, hP, hD, hSh⟩ := hB
          rw [ht] at hP
          clear ht
          subst hpx11
          refine lv_iload hx hb d_La_law_146 (lv_at hl 0 rfl) ?_
          refine lv_icmp_eq (tgt := 153) hx hb d_La_law_148 (by decide) (fun _ => ?_) (fun h => absurd (by decide +kernel) h)
          refine lv_goto (tgt := 837) hx hb d_La_law_153 (by decide) ?_
          refine lv_iinc (k := 5) (v := nI (6 * t + 6)) hx hb d_La_law_837 hl rfl (aw_inc (6 * t) 6 6 (by decide +kernel)) (by decide) rfl (fun ls hl => ?_)
          have hl : lv_has ls 8 [(4, .int (nI (6 * t + 6))), (5, .int (nI 2)), (0, .ref b), (1, .ref (aw_r ad 0)), (2, .ref (aw_m ad 0)), (3, .ref (aw_o ad))] := hl
          refine lv_goto (tgt := 23) hx hb d_La_law_840 (by decide) ?_
          have hl := lv_sub hl (l' := [(0, .ref b), (1, .ref (aw_r ad 0)), (2, .ref (aw_m ad 0)), (3, .ref (aw_o ad)), (4, .int (nI (6 * t + 6)))]) [2, 3, 4, 5, 0] rfl
          refine W.widen (k := 85 + (t + 1)) (n := 1246 + 6 * (t + 1)) (by omega) (by omega) ?_
          exact ih (t + 1) G (nI 2) _ _ L ls (by omega) hP hD hSh hS (by first | exact hl | simpa [Nat.mul_add] using hl)
        · by_cases hs : (G j).1 = 0
          · refine lv_aload_n hx hb d_La_law_108 rfl (lv_at hl 1 rfl) ?_
            refine lv_aload_n hx hb d_La_law_109 rfl (lv_at hl 0 rfl) ?_
            refine lv_iload hx hb d_La_law_110 (lv_at hl 4 rfl) ?_
            refine lv_iconst (v := nI 1) hx hb d_La_law_112 (by decide +kernel) ?_
            refine lv_iadd hx hb d_La_law_113 ?_
            refine aw_ti (nI_add (6 * t) 1) ?_
            refine va_sld hx hb hX hbl hbA hS (i := (nI ((6 * t) + 1))) (vp_in_nI (by omega) (by omega)) d_La_law_114 ?_
            refine aw_ti (y := nI j) (by rw [nI_clamp (by omega)]; exact hc0.symm) ?_
            refine lv_aload_n hx hb d_La_law_115 rfl (lv_at hl 0 rfl) ?_
            refine lv_iload hx hb d_La_law_116 (lv_at hl 4 rfl) ?_
            refine lv_iconst (v := nI 2) hx hb d_La_law_118 (by decide +kernel) ?_
            refine lv_iadd hx hb d_La_law_119 ?_
            refine aw_ti (nI_add (6 * t) 2) ?_
            refine va_sld hx hb hX hbl hbA hS (i := (nI ((6 * t) + 2))) (vp_in_nI (by omega) (by omega)) d_La_law_120 ?_
            refine aw_ti (y := nI k) (by rw [nI_clamp (by omega)]; exact hk0.symm) ?_
            refine va_calli (vx_runSW (As := [.ref (aw_r ad 0), .int (nI j), .int (nI k)]) (rest := []) ⟨hx, hb, hml, hown, hG⟩ (k_La_choose1 l hst D g ad G G F N0 j k hj (by omega) (by omega)) (aw_wW 3 hG gw_2_37 gw_2_35 gw_0_0 gw_2_36 rfl rfl hd_La_choose ⟨Nat.le_of_ble_eq_true rfl, Nat.le_of_ble_eq_true rfl⟩) (aw_qS hP hD hSh hU hS) rfl rfl hl.1 rfl (lv_room (Nat.le_of_ble_eq_true rfl)) d_La_law_121 ⟨by omega, by omega⟩) hS (fun _ _ h => h) (fun _ h => h) (fun x12 u8 t8 H locs ht _ hpx12 hB _ _ hS => ?_)
            obtain ⟨L, hP, hD, hSh⟩ := hB
            rw [ht] at hP
            clear ht
            subst hpx12
            refine lv_istore hx hb d_La_law_124 hl (by decide) rfl (fun ls hl => ?_)
            have hl : lv_has ls 8 [(5, .int (nI 0)), (0, .ref b), (1, .ref (aw_r ad 0)), (2, .ref (aw_m ad 0)), (3, .ref (aw_o ad)), (4, .int (nI (6 * t)))] := hl
            refine lv_aload_n hx hb d_La_law_126 rfl (lv_at hl 3 rfl) ?_
            refine lv_aload_n hx hb d_La_law_127 rfl (lv_at hl 1 rfl) ?_
            refine lv_iload hx hb d_La_law_128 (lv_at hl 5 rfl) ?_
            refine lv_iconst (v := nI 1) hx hb d_La_law_130 (by decide +kernel) ?_
            refine lv_iadd hx hb d_La_law_131 ?_
            refine aw_ti (nI_add (6 * t) 1) ?_
            refine va_sld hx hb hX hbl hbA hS (i := (nI ((6 * t) + 1))) (vp_in_nI (by omega) (by omega)) d_La_law_132 ?_
            refine aw_ti (y := nI j) (by rw [nI_clamp (by omega)]; exact hc0.symm) ?_
            refine lv_aload_n hx hb d_La_law_133 rfl (lv_at hl 1 rfl) ?_
            refine lv_iload hx hb d_La_law_134 (lv_at hl 5 rfl) ?_
            refine lv_iconst (v := nI 2) hx hb d_La_law_136 (by decide +kernel) ?_
            refine lv_iadd hx hb d_La_law_137 ?_
            refine aw_ti (nI_add (6 * t) 2) ?_
            refine va_sld hx hb hX hbl hbA hS (i := (nI ((6 * t) + 2))) (vp_in_nI (by omega) (by omega)) d_La_law_138 ?_
            refine aw_ti (y := nI k) (by rw [nI_clamp (by omega)]; exact hk0.symm) ?_
            obtain ⟨_, _, _, he13⟩ := rd_M0 hSh
            refine va_callv (va_runV (As := [.int (nI j), .int (nI k)]) (rest := []) ⟨hx, hb, hml, hown, hG⟩ (k_Mo_choose1 l D g ad (aw_g1 G j 1) G F N0 j k hj (by omega) (by omega)) (aw_wV 2 hG gw_10_31 gw_10_28 gw_0_10 gw_10_29 gw_10_30 rfl rfl hd_Mo_choose ⟨Nat.le_of_ble_eq_true rfl, Nat.le_of_ble_eq_true rfl⟩) (aw_qV (va_recv hK hP rfl he13) hP hD hSh hU hS) rfl rfl hl.1 rfl (lv_room (Nat.le_of_ble_eq_true rfl)) d_La_law_139 ⟨by omega, by omega⟩) hS (fun _ _ h => h) (fun _ h => h) (fun u8 t8 H locs ht _ _ hB _ _ hS => ?_)
            obtain ⟨L, hP, hD, hSh⟩ := hB
            rw [ht] at hP
            clear ht
            refine lv_aload_n hx hb d_La_law_142 rfl (lv_at hl 3 rfl) ?_
            obtain ⟨_, _, _, he14⟩ := rd_M0 hSh
            refine va_calli (va_runV (As := []) (rest := []) ⟨hx, hb, hml, hown, hG⟩ (k_Mo_thrown l D g ad (aw_g1 G j 1) (aw_g1 G j 1) (nI 0) N0) (aw_wV 0 hG gw_10_27 gw_10_24 gw_0_10 gw_10_25 gw_10_26 rfl rfl hd_Mo_thrown ⟨Nat.le_of_ble_eq_true rfl, Nat.le_of_ble_eq_true rfl⟩) (aw_qV (va_recv hK hP rfl he14) hP hD hSh hU hS) rfl rfl hl.1 rfl (lv_room (Nat.le_of_ble_eq_true rfl)) d_La_law_143 ⟨by omega, by omega⟩) hS (fun _ _ h => h) (fun _ h => h) (fun x15 u8 t8 H locs ht _ hpx15 hB _ _ hS => ?_)
            obtain ⟨L, hP, hD, hSh⟩ := hB
            rw [ht] at hP
            clear ht
            subst hpx15
            refine lv_iload hx hb d_La_law_146 (lv_at hl 0 rfl) ?_
            refine lv_icmp_eq (tgt := 153) hx hb d_La_law_148 (by decide) (fun _ => ?_) (fun h => absurd (by decide +kernel) h)
            refine lv_goto (tgt := 837) hx hb d_La_law_153 (by decide) ?_
            refine lv_iinc (k := 5) (v := nI (6 * t + 6)) hx hb d_La_law_837 hl rfl (aw_inc (6 * t) 6 6 (by decide +kernel)) (by decide) rfl (fun ls hl => ?_)
            have hl : lv_has ls 8 [(4, .int (nI (6 * t + 6))), (5, .int (nI 0)), (0, .ref b), (1, .ref (aw_r ad 0)), (2, .ref (aw_m ad 0)), (3, .ref (aw_o ad))] := hl
            refine lv_goto (tgt := 23) hx hb d_La_law_840 (by decide) ?_
            have hl := lv_sub hl (l' := [(0, .ref b), (1, .ref (aw_r ad 0)), (2, .ref (aw_m ad 0)), (3, .ref (aw_o ad)), (4, .int (nI (6 * t + 6)))]) [2, 3, 4, 5, 0] rfl
            refine W.widen (k := 85 + (t + 1)) (n := 1246 + 6 * (t + 1)) (by omega) (by omega) ?_
            exact ih (t + 1) (aw_g1 G j 1) (nI 0) _ _ L ls (by omega) hP hD hSh hS (by first | exact hl | simpa [Nat.mul_add] using hl)
          · refine lv_aload_n hx hb d_La_law_108 rfl (lv_at hl 1 rfl) ?_
            refine lv_aload_n hx hb d_La_law_109 rfl (lv_at hl 0 rfl) ?_
            refine lv_iload hx hb d_La_law_110 (lv_at hl 4 rfl) ?_
            refine lv_iconst (v := nI 1) hx hb d_La_law_112 (by decide +kernel) ?_
            refine lv_iadd hx hb d_La_law_113 ?_
            refine aw_ti (nI_add (6 * t) 1) ?_
            refine va_sld hx hb hX hbl hbA hS (i := (nI ((6 * t) + 1))) (vp_in_nI (by omega) (by omega)) d_La_law_114 ?_
            refine aw_ti (y := nI j) (by rw [nI_clamp (by omega)]; exact hc0.symm) ?_
            refine lv_aload_n hx hb d_La_law_115 rfl (lv_at hl 0 rfl) ?_
            refine lv_iload hx hb d_La_law_116 (lv_at hl 4 rfl) ?_
            refine lv_iconst (v := nI 2) hx hb d_La_law_118 (by decide +kernel) ?_
            refine lv_iadd hx hb d_La_law_119 ?_
            refine aw_ti (nI_add (6 * t) 2) ?_
            refine va_sld hx hb hX hbl hbA hS (i := (nI ((6 * t) + 2))) (vp_in_nI (by omega) (by omega)) d_La_law_120 ?_
            refine aw_ti (y := nI k) (by rw [nI_clamp (by omega)]; exact hk0.symm) ?_
            refine va_calli (vx_runSW (As := [.ref (aw_r ad 0), .int (nI j), .int (nI k)]) (rest := []) ⟨hx, hb, hml, hown, hG⟩ (k_La_chooseXs l hst D g ad G G F N0 j k hj (by omega) (by omega)) (aw_wW 3 hG gw_2_37 gw_2_35 gw_0_0 gw_2_36 rfl rfl hd_La_choose ⟨Nat.le_of_ble_eq_true rfl, Nat.le_of_ble_eq_true rfl⟩) (aw_qS hP hD hSh hU hS) rfl rfl hl.1 rfl (lv_room (Nat.le_of_ble_eq_true rfl)) d_La_law_121 ⟨by omega, by omega⟩) hS (fun _ _ h => h) (fun _ h => h) (fun x16 u8 t8 H locs ht _ hpx16 hB _ _ hS => ?_)
            obtain ⟨L, hP, hD, hSh⟩ := hB
            rw [ht] at hP
            clear ht
            subst hpx16
            refine lv_istore hx hb d_La_law_124 hl (by decide) rfl (fun ls hl => ?_)
            have hl : lv_has ls 8 [(5, .int (nI 3)), (0, .ref b), (1, .ref (aw_r ad 0)), (2, .ref (aw_m ad 0)), (3, .ref (aw_o ad)), (4, .int (nI (6 * t)))] := hl
            refine lv_aload_n hx hb d_La_law_126 rfl (lv_at hl 3 rfl) ?_
            refine lv_aload_n hx hb d_La_law_127 rfl (lv_at hl 1 rfl) ?_
            refine lv_iload hx hb d_La_law_128 (lv_at hl 5 rfl) ?_
            refine lv_iconst (v := nI 1) hx hb d_La_law_130 (by decide +kernel) ?_
            refine lv_iadd hx hb d_La_law_131 ?_
            refine aw_ti (nI_add (6 * t) 1) ?_
            refine va_sld hx hb hX hbl hbA hS (i := (nI ((6 * t) + 1))) (vp_in_nI (by omega) (by omega)) d_La_law_132 ?_
            refine aw_ti (y := nI j) (by rw [nI_clamp (by omega)]; exact hc0.symm) ?_
            refine lv_aload_n hx hb d_La_law_133 rfl (lv_at hl 1 rfl) ?_
            refine lv_iload hx hb d_La_law_134 (lv_at hl 5 rfl) ?_
            refine lv_iconst (v := nI 2) hx hb d_La_law_136 (by decide +kernel) ?_
            refine lv_iadd hx hb d_La_law_137 ?_
            refine aw_ti (nI_add (6 * t) 2) ?_
            refine va_sld hx hb hX hbl hbA hS (i := (nI ((6 * t) + 2))) (vp_in_nI (by omega) (by omega)) d_La_law_138 ?_
            refine aw_ti (y := nI k) (by rw [nI_clamp (by omega)]; exact hk0.symm) ?_
            obtain ⟨_, _, _, he17⟩ := rd_M0 hSh
            refine va_callv (va_runV (As := [.int (nI j), .int (nI k)]) (rest := []) ⟨hx, hb, hml, hown, hG⟩ (k_Mo_chooseXs l D g ad G G F N0 j k hj (by omega) (by omega)) (aw_wV 2 hG gw_10_31 gw_10_28 gw_0_10 gw_10_29 gw_10_30 rfl rfl hd_Mo_choose ⟨Nat.le_of_ble_eq_true rfl, Nat.le_of_ble_eq_true rfl⟩) (aw_qV (va_recv hK hP rfl he17) hP hD hSh hU hS) rfl rfl hl.1 rfl (lv_room (Nat.le_of_ble_eq_true rfl)) d_La_law_139 ⟨by omega, by omega⟩) hS (fun _ _ h => h) (fun _ h => h) (fun u8 t8 H locs ht _ _ hB _ _ hS => ?_)
            obtain ⟨L, hP, hD, hSh⟩ := hB
            rw [ht] at hP
            clear ht
            refine lv_aload_n hx hb d_La_law_142 rfl (lv_at hl 3 rfl) ?_
            obtain ⟨_, _, _, he18⟩ := rd_M0 hSh
            refine va_calli (va_runV (As := []) (rest := []) ⟨hx, hb, hml, hown, hG⟩ (k_Mo_thrown l D g ad G G (nI 3) N0) (aw_wV 0 hG gw_10_27 gw_10_24 gw_0_10 gw_10_25 gw_10_26 rfl rfl hd_Mo_thrown ⟨Nat.le_of_ble_eq_true rfl, Nat.le_of_ble_eq_true rfl⟩) (aw_qV (va_recv hK hP rfl he18) hP hD hSh hU hS) rfl rfl hl.1 rfl (lv_room (Nat.le_of_ble_eq_true rfl)) d_La_law_143 ⟨by omega, by omega⟩) hS (fun _ _ h => h) (fun _ h => h) (fun x19 u8 t8 H locs ht _ hpx19 hB _ _ hS => ?_)
            obtain ⟨L, hP, hD, hSh⟩ := hB
            rw [ht] at hP
            clear ht
            subst hpx19
            refine lv_iload hx hb d_La_law_146 (lv_at hl 0 rfl) ?_
            refine lv_icmp_eq (tgt := 153) hx hb d_La_law_148 (by decide) (fun _ => ?_) (fun h => absurd (by decide +kernel) h)
            refine lv_goto (tgt := 837) hx hb d_La_law_153 (by decide) ?_
            refine lv_iinc (k := 5) (v := nI (6 * t + 6)) hx hb d_La_law_837 hl rfl (aw_inc (6 * t) 6 6 (by decide +kernel)) (by decide) rfl (fun ls hl => ?_)
            have hl : lv_has ls 8 [(4, .int (nI (6 * t + 6))), (5, .int (nI 3)), (0, .ref b), (1, .ref (aw_r ad 0)), (2, .ref (aw_m ad 0)), (3, .ref (aw_o ad))] := hl
            refine lv_goto (tgt := 23) hx hb d_La_law_840 (by decide) ?_
            have hl := lv_sub hl (l' := [(0, .ref b), (1, .ref (aw_r ad 0)), (2, .ref (aw_m ad 0)), (3, .ref (aw_o ad)), (4, .int (nI (6 * t + 6)))]) [2, 3, 4, 5, 0] rfl
            refine W.widen (k := 85 + (t + 1)) (n := 1246 + 6 * (t + 1)) (by omega) (by omega) ?_
            exact ih (t + 1) G (nI 3) _ _ L ls (by omega) hP hD hSh hS (by first | exact hl | simpa [Nat.mul_add] using hl)
    · refine aw_ti (y := nI 1) (by rw [hs3]) ?_
      refine lv_tableIn (tgt := 156) (off := 116) hx hb d_La_law_40 (by decide +kernel) (by decide +kernel) (by decide +kernel) (by decide) ?_
      obtain ⟨c0, hc0⟩ : ∃ z : Int32, z = xs (6 * t + 1) := ⟨_, rfl⟩
      rcases aw_rng 4 (by decide) c0 with hc | ⟨j, hj, rfl⟩
      · refine lv_aload_n hx hb d_La_law_156 rfl (lv_at hl 1 rfl) ?_
        refine lv_aload_n hx hb d_La_law_157 rfl (lv_at hl 0 rfl) ?_
        refine lv_iload hx hb d_La_law_158 (lv_at hl 4 rfl) ?_
        refine lv_iconst (v := nI 1) hx hb d_La_law_160 (by decide +kernel) ?_
        refine lv_iadd hx hb d_La_law_161 ?_
        refine aw_ti (nI_add (6 * t) 1) ?_
        refine va_sld hx hb hX hbl hbA hS (i := (nI ((6 * t) + 1))) (vp_in_nI (by omega) (by omega)) d_La_law_162 ?_
        refine aw_ti (y := c0) (by rw [nI_clamp (by omega)]; exact hc0.symm) ?_
        refine lv_aload_n hx hb d_La_law_163 rfl (lv_at hl 0 rfl) ?_
        refine lv_iload hx hb d_La_law_164 (lv_at hl 4 rfl) ?_
        refine lv_iconst (v := nI 2) hx hb d_La_law_166 (by decide +kernel) ?_
        refine lv_iadd hx hb d_La_law_167 ?_
        refine aw_ti (nI_add (6 * t) 2) ?_
        refine va_sld hx hb hX hbl hbA hS (i := (nI ((6 * t) + 2))) (vp_in_nI (by omega) (by omega)) d_La_law_168 ?_
        refine lv_topi (fun x20 _ => ?_)
        refine lv_i2l hx hb d_La_law_169 rfl ?_
        refine lv_topl (fun y21 _ => ?_)
        refine lv_bipush (v := nI 32) hx hb d_La_law_170 (by decide +kernel) ?_
        refine lv_lshl hx hb d_La_law_172 rfl ?_
        refine lv_topl (fun y22 _ => ?_)
        refine lv_aload_n hx hb d_La_law_173 rfl (lv_at hl 0 rfl) ?_
        refine lv_iload hx hb d_La_law_174 (lv_at hl 4 rfl) ?_
        refine lv_iconst (v := nI 3) hx hb d_La_law_176 (by decide +kernel) ?_
        refine lv_iadd hx hb d_La_law_177 ?_
        refine aw_ti (nI_add (6 * t) 3) ?_
        refine va_sld hx hb hX hbl hbA hS (i := (nI ((6 * t) + 3))) (vp_in_nI (by omega) (by omega)) d_La_law_178 ?_
        refine lv_topi (fun x23 _ => ?_)
        refine lv_i2l hx hb d_La_law_179 rfl ?_
        refine lv_topl (fun y24 _ => ?_)
        refine lv_ldc2 (v := 4294967295) hx hb hown (hG _ gw_13_3) d_La_law_180 ?_
        refine lv_land hx hb d_La_law_183 ?_
        refine lv_topl (fun y25 _ => ?_)
        refine lv_lor hx hb d_La_law_184 ?_
        refine lv_topl (fun y26 _ => ?_)
        refine lv_aload_n hx hb d_La_law_185 rfl (lv_at hl 0 rfl) ?_
        refine lv_iload hx hb d_La_law_186 (lv_at hl 4 rfl) ?_
        refine lv_iconst (v := nI 4) hx hb d_La_law_188 (by decide +kernel) ?_
        refine lv_iadd hx hb d_La_law_189 ?_
        refine aw_ti (nI_add (6 * t) 4) ?_
        refine va_sld hx hb hX hbl hbA hS (i := (nI ((6 * t) + 4))) (vp_in_nI (by omega) (by omega)) d_La_law_190 ?_
        refine lv_topi (fun x27 _ => ?_)
        refine lv_i2l hx hb d_La_law_191 rfl ?_
        refine lv_topl (fun y28 _ => ?_)
        refine lv_bipush (v := nI 32) hx hb d_La_law_192 (by decide +kernel) ?_
        refine lv_lshl hx hb d_La_law_194 rfl ?_
        refine lv_topl (fun y29 _ => ?_)
        refine lv_aload_n hx hb d_La_law_195 rfl (lv_at hl 0 rfl) ?_
        refine lv_iload hx hb d_La_law_196 (lv_at hl 4 rfl) ?_
        refine lv_iconst (v := nI 5) hx hb d_La_law_198 (by decide +kernel) ?_
        refine lv_iadd hx hb d_La_law_199 ?_
        refine aw_ti (nI_add (6 * t) 5) ?_
        refine va_sld hx hb hX hbl hbA hS (i := (nI ((6 * t) + 5))) (vp_in_nI (by omega) (by omega)) d_La_law_200 ?_
        refine lv_topi (fun x30 _ => ?_)
        refine lv_i2l hx hb d_La_law_201 rfl ?_
        refine lv_topl (fun y31 _ => ?_)
        refine lv_ldc2 (v := 4294967295) hx hb hown (hG _ gw_13_3) d_La_law_202 ?_
        refine lv_land hx hb d_La_law_205 ?_
        refine lv_topl (fun y32 _ => ?_)
        refine lv_lor hx hb d_La_law_206 ?_
        refine lv_topl (fun y33 _ => ?_)
        refine va_calli (vx_runSW (As := [.ref (aw_r ad 0), .int c0, .long y26, .long y33]) (rest := []) ⟨hx, hb, hml, hown, hG⟩ (k_La_keyXc l hst D g ad G G F N0 c0 y26 y33 hc) (aw_wW 4 hG gw_4_19 gw_4_17 gw_0_0 gw_4_18 rfl rfl hd_La_key ⟨Nat.le_of_ble_eq_true rfl, Nat.le_of_ble_eq_true rfl⟩) (aw_qS hP hD hSh hU hS) rfl rfl hl.1 rfl (lv_room (Nat.le_of_ble_eq_true rfl)) d_La_law_207 ⟨by omega, by omega⟩) hS (fun _ _ h => h) (fun _ h => h) (fun x34 u8 t8 H locs ht _ hpx34 hB _ _ hS => ?_)
        obtain ⟨L, hP, hD, hSh⟩ := hB
        rw [ht] at hP
        clear ht
        subst hpx34
        refine lv_istore hx hb d_La_law_210 hl (by decide) rfl (fun ls hl => ?_)
        have hl : lv_has ls 8 [(5, .int (nI 1)), (0, .ref b), (1, .ref (aw_r ad 0)), (2, .ref (aw_m ad 0)), (3, .ref (aw_o ad)), (4, .int (nI (6 * t)))] := hl
        refine lv_aload_n hx hb d_La_law_212 rfl (lv_at hl 3 rfl) ?_
        refine lv_aload_n hx hb d_La_law_213 rfl (lv_at hl 1 rfl) ?_
        refine lv_iload hx hb d_La_law_214 (lv_at hl 5 rfl) ?_
        refine lv_iconst (v := nI 1) hx hb d_La_law_216 (by decide +kernel) ?_
        refine lv_iadd hx hb d_La_law_217 ?_
        refine aw_ti (nI_add (6 * t) 1) ?_
        refine va_sld hx hb hX hbl hbA hS (i := (nI ((6 * t) + 1))) (vp_in_nI (by omega) (by omega)) d_La_law_218 ?_
        refine aw_ti (y := c0) (by rw [nI_clamp (by omega)]; exact hc0.symm) ?_
        refine lv_aload_n hx hb d_La_law_219 rfl (lv_at hl 1 rfl) ?_
        refine lv_iload hx hb d_La_law_220 (lv_at hl 5 rfl) ?_
        refine lv_iconst (v := nI 2) hx hb d_La_law_222 (by decide +kernel) ?_
        refine lv_iadd hx hb d_La_law_223 ?_
        refine aw_ti (nI_add (6 * t) 2) ?_
        refine va_sld hx hb hX hbl hbA hS (i := (nI ((6 * t) + 2))) (vp_in_nI (by omega) (by omega)) d_La_law_224 ?_
        refine lv_topi (fun x35 _ => ?_)
        refine lv_i2l hx hb d_La_law_225 rfl ?_
        refine lv_topl (fun y36 _ => ?_)
        refine lv_bipush (v := nI 32) hx hb d_La_law_226 (by decide +kernel) ?_
        refine lv_lshl hx hb d_La_law_228 rfl ?_
        refine lv_topl (fun y37 _ => ?_)
        refine lv_aload_n hx hb d_La_law_229 rfl (lv_at hl 1 rfl) ?_
        refine lv_iload hx hb d_La_law_230 (lv_at hl 5 rfl) ?_
        refine lv_iconst (v := nI 3) hx hb d_La_law_232 (by decide +kernel) ?_
        refine lv_iadd hx hb d_La_law_233 ?_
        refine aw_ti (nI_add (6 * t) 3) ?_
        refine va_sld hx hb hX hbl hbA hS (i := (nI ((6 * t) + 3))) (vp_in_nI (by omega) (by omega)) d_La_law_234 ?_
        refine lv_topi (fun x38 _ => ?_)
        refine lv_i2l hx hb d_La_law_235 rfl ?_
        refine lv_topl (fun y39 _ => ?_)
        refine lv_ldc2 (v := 4294967295) hx hb hown (hG _ gw_13_3) d_La_law_236 ?_
        refine lv_land hx hb d_La_law_239 ?_
        refine lv_topl (fun y40 _ => ?_)
        refine lv_lor hx hb d_La_law_240 ?_
        refine lv_topl (fun y41 _ => ?_)
        refine lv_aload_n hx hb d_La_law_241 rfl (lv_at hl 1 rfl) ?_
        refine lv_iload hx hb d_La_law_242 (lv_at hl 5 rfl) ?_
        refine lv_iconst (v := nI 4) hx hb d_La_law_244 (by decide +kernel) ?_
        refine lv_iadd hx hb d_La_law_245 ?_
        refine aw_ti (nI_add (6 * t) 4) ?_
        refine va_sld hx hb hX hbl hbA hS (i := (nI ((6 * t) + 4))) (vp_in_nI (by omega) (by omega)) d_La_law_246 ?_
        refine lv_topi (fun x42 _ => ?_)
        refine lv_i2l hx hb d_La_law_247 rfl ?_
        refine lv_topl (fun y43 _ => ?_)
        refine lv_bipush (v := nI 32) hx hb d_La_law_248 (by decide +kernel) ?_
        refine lv_lshl hx hb d_La_law_250 rfl ?_
        refine lv_topl (fun y44 _ => ?_)
        refine lv_aload_n hx hb d_La_law_251 rfl (lv_at hl 1 rfl) ?_
        refine lv_iload hx hb d_La_law_252 (lv_at hl 5 rfl) ?_
        refine lv_iconst (v := nI 5) hx hb d_La_law_254 (by decide +kernel) ?_
        refine lv_iadd hx hb d_La_law_255 ?_
        refine aw_ti (nI_add (6 * t) 5) ?_
        refine va_sld hx hb hX hbl hbA hS (i := (nI ((6 * t) + 5))) (vp_in_nI (by omega) (by omega)) d_La_law_256 ?_
        refine lv_topi (fun x45 _ => ?_)
        refine lv_i2l hx hb d_La_law_257 rfl ?_
        refine lv_topl (fun y46 _ => ?_)
        refine lv_ldc2 (v := 4294967295) hx hb hown (hG _ gw_13_3) d_La_law_258 ?_
        refine lv_land hx hb d_La_law_261 ?_
        refine lv_topl (fun y47 _ => ?_)
        refine lv_lor hx hb d_La_law_262 ?_
        refine lv_topl (fun y48 _ => ?_)
        obtain ⟨_, _, _, he49⟩ := rd_M0 hSh
        refine va_callv (va_runV (As := [.int c0, .long y41, .long y48]) (rest := []) ⟨hx, hb, hml, hown, hG⟩ (k_Mo_keyXc l D g ad G G F N0 c0 y41 y48 hc) (aw_wV 3 hG gw_10_41 gw_10_38 gw_0_10 gw_10_39 gw_10_40 rfl rfl hd_Mo_key ⟨Nat.le_of_ble_eq_true rfl, Nat.le_of_ble_eq_true rfl⟩) (aw_qV (va_recv hK hP rfl he49) hP hD hSh hU hS) rfl rfl hl.1 rfl (lv_room (Nat.le_of_ble_eq_true rfl)) d_La_law_263 ⟨by omega, by omega⟩) hS (fun _ _ h => h) (fun _ h => h) (fun u8 t8 H locs ht _ _ hB _ _ hS => ?_)
        obtain ⟨L, hP, hD, hSh⟩ := hB
        rw [ht] at hP
        clear ht
        refine lv_goto (tgt := 837) hx hb d_La_law_266 (by decide) ?_
        refine lv_iinc (k := 5) (v := nI (6 * t + 6)) hx hb d_La_law_837 hl rfl (aw_inc (6 * t) 6 6 (by decide +kernel)) (by decide) rfl (fun ls hl => ?_)
        have hl : lv_has ls 8 [(4, .int (nI (6 * t + 6))), (5, .int (nI 1)), (0, .ref b), (1, .ref (aw_r ad 0)), (2, .ref (aw_m ad 0)), (3, .ref (aw_o ad))] := hl
        refine lv_goto (tgt := 23) hx hb d_La_law_840 (by decide) ?_
        have hl := lv_sub hl (l' := [(0, .ref b), (1, .ref (aw_r ad 0)), (2, .ref (aw_m ad 0)), (3, .ref (aw_o ad)), (4, .int (nI (6 * t + 6)))]) [2, 3, 4, 5, 0] rfl
        refine W.widen (k := 85 + (t + 1)) (n := 1246 + 6 * (t + 1)) (by omega) (by omega) ?_
        exact ih (t + 1) G (nI 1) _ _ L ls (by omega) hP hD hSh hS (by first | exact hl | simpa [Nat.mul_add] using hl)
      · have hgj := hSh.2.2.2.2.1 j hj
        by_cases hs : (G j).1 = 0
        · refine lv_aload_n hx hb d_La_law_156 rfl (lv_at hl 1 rfl) ?_
          refine lv_aload_n hx hb d_La_law_157 rfl (lv_at hl 0 rfl) ?_
          refine lv_iload hx hb d_La_law_158 (lv_at hl 4 rfl) ?_
          refine lv_iconst (v := nI 1) hx hb d_La_law_160 (by decide +kernel) ?_
          refine lv_iadd hx hb d_La_law_161 ?_
          refine aw_ti (nI_add (6 * t) 1) ?_
          refine va_sld hx hb hX hbl hbA hS (i := (nI ((6 * t) + 1))) (vp_in_nI (by omega) (by omega)) d_La_law_162 ?_
          refine aw_ti (y := nI j) (by rw [nI_clamp (by omega)]; exact hc0.symm) ?_
          refine lv_aload_n hx hb d_La_law_163 rfl (lv_at hl 0 rfl) ?_
          refine lv_iload hx hb d_La_law_164 (lv_at hl 4 rfl) ?_
          refine lv_iconst (v := nI 2) hx hb d_La_law_166 (by decide +kernel) ?_
          refine lv_iadd hx hb d_La_law_167 ?_
          refine aw_ti (nI_add (6 * t) 2) ?_
          refine va_sld hx hb hX hbl hbA hS (i := (nI ((6 * t) + 2))) (vp_in_nI (by omega) (by omega)) d_La_law_168 ?_
          refine lv_topi (fun x50 _ => ?_)
          refine lv_i2l hx hb d_La_law_169 rfl ?_
          refine lv_topl (fun y51 _ => ?_)
          refine lv_bipush (v := nI 32) hx hb d_La_law_170 (by decide +kernel) ?_
          refine lv_lshl hx hb d_La_law_172 rfl ?_
          refine lv_topl (fun y52 _ => ?_)
          refine lv_aload_n hx hb d_La_law_173 rfl (lv_at hl 0 rfl) ?_
          refine lv_iload hx hb d_La_law_174 (lv_at hl 4 rfl) ?_
          refine lv_iconst (v := nI 3) hx hb d_La_law_176 (by decide +kernel) ?_
          refine lv_iadd hx hb d_La_law_177 ?_
          refine aw_ti (nI_add (6 * t) 3) ?_
          refine va_sld hx hb hX hbl hbA hS (i := (nI ((6 * t) + 3))) (vp_in_nI (by omega) (by omega)) d_La_law_178 ?_
          refine lv_topi (fun x53 _ => ?_)
          refine lv_i2l hx hb d_La_law_179 rfl ?_
          refine lv_topl (fun y54 _ => ?_)
          refine lv_ldc2 (v := 4294967295) hx hb hown (hG _ gw_13_3) d_La_law_180 ?_
          refine lv_land hx hb d_La_law_183 ?_
          refine lv_topl (fun y55 _ => ?_)
          refine lv_lor hx hb d_La_law_184 ?_
          refine lv_topl (fun y56 _ => ?_)
          refine lv_aload_n hx hb d_La_law_185 rfl (lv_at hl 0 rfl) ?_
          refine lv_iload hx hb d_La_law_186 (lv_at hl 4 rfl) ?_
          refine lv_iconst (v := nI 4) hx hb d_La_law_188 (by decide +kernel) ?_
          refine lv_iadd hx hb d_La_law_189 ?_
          refine aw_ti (nI_add (6 * t) 4) ?_
          refine va_sld hx hb hX hbl hbA hS (i := (nI ((6 * t) + 4))) (vp_in_nI (by omega) (by omega)) d_La_law_190 ?_
          refine lv_topi (fun x57 _ => ?_)
          refine lv_i2l hx hb d_La_law_191 rfl ?_
          refine lv_topl (fun y58 _ => ?_)
          refine lv_bipush (v := nI 32) hx hb d_La_law_192 (by decide +kernel) ?_
          refine lv_lshl hx hb d_La_law_194 rfl ?_
          refine lv_topl (fun y59 _ => ?_)
          refine lv_aload_n hx hb d_La_law_195 rfl (lv_at hl 0 rfl) ?_
          refine lv_iload hx hb d_La_law_196 (lv_at hl 4 rfl) ?_
          refine lv_iconst (v := nI 5) hx hb d_La_law_198 (by decide +kernel) ?_
          refine lv_iadd hx hb d_La_law_199 ?_
          refine aw_ti (nI_add (6 * t) 5) ?_
          refine va_sld hx hb hX hbl hbA hS (i := (nI ((6 * t) + 5))) (vp_in_nI (by omega) (by omega)) d_La_law_200 ?_
          refine lv_topi (fun x60 _ => ?_)
          refine lv_i2l hx hb d_La_law_201 rfl ?_
          refine lv_topl (fun y61 _ => ?_)
          refine lv_ldc2 (v := 4294967295) hx hb hown (hG _ gw_13_3) d_La_law_202 ?_
          refine lv_land hx hb d_La_law_205 ?_
          refine lv_topl (fun y62 _ => ?_)
          refine lv_lor hx hb d_La_law_206 ?_
          refine lv_topl (fun y63 _ => ?_)
          refine va_calli (vx_runSW (As := [.ref (aw_r ad 0), .int (nI j), .long y56, .long y63]) (rest := []) ⟨hx, hb, hml, hown, hG⟩ (k_La_keyXs l hst D g ad G G F N0 j y56 y63 hj (by omega)) (aw_wW 4 hG gw_4_19 gw_4_17 gw_0_0 gw_4_18 rfl rfl hd_La_key ⟨Nat.le_of_ble_eq_true rfl, Nat.le_of_ble_eq_true rfl⟩) (aw_qS hP hD hSh hU hS) rfl rfl hl.1 rfl (lv_room (Nat.le_of_ble_eq_true rfl)) d_La_law_207 ⟨by omega, by omega⟩) hS (fun _ _ h => h) (fun _ h => h) (fun x64 u8 t8 H locs ht _ hpx64 hB _ _ hS => ?_)
          obtain ⟨L, hP, hD, hSh⟩ := hB
          rw [ht] at hP
          clear ht
          subst hpx64
          refine lv_istore hx hb d_La_law_210 hl (by decide) rfl (fun ls hl => ?_)
          have hl : lv_has ls 8 [(5, .int (nI 2)), (0, .ref b), (1, .ref (aw_r ad 0)), (2, .ref (aw_m ad 0)), (3, .ref (aw_o ad)), (4, .int (nI (6 * t)))] := hl
          refine lv_aload_n hx hb d_La_law_212 rfl (lv_at hl 3 rfl) ?_
          refine lv_aload_n hx hb d_La_law_213 rfl (lv_at hl 1 rfl) ?_
          refine lv_iload hx hb d_La_law_214 (lv_at hl 5 rfl) ?_
          refine lv_iconst (v := nI 1) hx hb d_La_law_216 (by decide +kernel) ?_
          refine lv_iadd hx hb d_La_law_217 ?_
          refine aw_ti (nI_add (6 * t) 1) ?_
          refine va_sld hx hb hX hbl hbA hS (i := (nI ((6 * t) + 1))) (vp_in_nI (by omega) (by omega)) d_La_law_218 ?_
          refine aw_ti (y := nI j) (by rw [nI_clamp (by omega)]; exact hc0.symm) ?_
          refine lv_aload_n hx hb d_La_law_219 rfl (lv_at hl 1 rfl) ?_
          refine lv_iload hx hb d_La_law_220 (lv_at hl 5 rfl) ?_
          refine lv_iconst (v := nI 2) hx hb d_La_law_222 (by decide +kernel) ?_
          refine lv_iadd hx hb d_La_law_223 ?_
          refine aw_ti (nI_add (6 * t) 2) ?_
          refine va_sld hx hb hX hbl hbA hS (i := (nI ((6 * t) + 2))) (vp_in_nI (by omega) (by omega)) d_La_law_224 ?_
          refine lv_topi (fun x65 _ => ?_)
          refine lv_i2l hx hb d_La_law_225 rfl ?_
          refine lv_topl (fun y66 _ => ?_)
          refine lv_bipush (v := nI 32) hx hb d_La_law_226 (by decide +kernel) ?_
          refine lv_lshl hx hb d_La_law_228 rfl ?_
          refine lv_topl (fun y67 _ => ?_)
          refine lv_aload_n hx hb d_La_law_229 rfl (lv_at hl 1 rfl) ?_
          refine lv_iload hx hb d_La_law_230 (lv_at hl 5 rfl) ?_
          refine lv_iconst (v := nI 3) hx hb d_La_law_232 (by decide +kernel) ?_
          refine lv_iadd hx hb d_La_law_233 ?_
          refine aw_ti (nI_add (6 * t) 3) ?_
          refine va_sld hx hb hX hbl hbA hS (i := (nI ((6 * t) + 3))) (vp_in_nI (by omega) (by omega)) d_La_law_234 ?_
          refine lv_topi (fun x68 _ => ?_)
          refine lv_i2l hx hb d_La_law_235 rfl ?_
          refine lv_topl (fun y69 _ => ?_)
          refine lv_ldc2 (v := 4294967295) hx hb hown (hG _ gw_13_3) d_La_law_236 ?_
          refine lv_land hx hb d_La_law_239 ?_
          refine lv_topl (fun y70 _ => ?_)
          refine lv_lor hx hb d_La_law_240 ?_
          refine lv_topl (fun y71 _ => ?_)
          refine lv_aload_n hx hb d_La_law_241 rfl (lv_at hl 1 rfl) ?_
          refine lv_iload hx hb d_La_law_242 (lv_at hl 5 rfl) ?_
          refine lv_iconst (v := nI 4) hx hb d_La_law_244 (by decide +kernel) ?_
          refine lv_iadd hx hb d_La_law_245 ?_
          refine aw_ti (nI_add (6 * t) 4) ?_
          refine va_sld hx hb hX hbl hbA hS (i := (nI ((6 * t) + 4))) (vp_in_nI (by omega) (by omega)) d_La_law_246 ?_
          refine lv_topi (fun x72 _ => ?_)
          refine lv_i2l hx hb d_La_law_247 rfl ?_
          refine lv_topl (fun y73 _ => ?_)
          refine lv_bipush (v := nI 32) hx hb d_La_law_248 (by decide +kernel) ?_
          refine lv_lshl hx hb d_La_law_250 rfl ?_
          refine lv_topl (fun y74 _ => ?_)
          refine lv_aload_n hx hb d_La_law_251 rfl (lv_at hl 1 rfl) ?_
          refine lv_iload hx hb d_La_law_252 (lv_at hl 5 rfl) ?_
          refine lv_iconst (v := nI 5) hx hb d_La_law_254 (by decide +kernel) ?_
          refine lv_iadd hx hb d_La_law_255 ?_
          refine aw_ti (nI_add (6 * t) 5) ?_
          refine va_sld hx hb hX hbl hbA hS (i := (nI ((6 * t) + 5))) (vp_in_nI (by omega) (by omega)) d_La_law_256 ?_
          refine lv_topi (fun x75 _ => ?_)
          refine lv_i2l hx hb d_La_law_257 rfl ?_
          refine lv_topl (fun y76 _ => ?_)
          refine lv_ldc2 (v := 4294967295) hx hb hown (hG _ gw_13_3) d_La_law_258 ?_
          refine lv_land hx hb d_La_law_261 ?_
          refine lv_topl (fun y77 _ => ?_)
          refine lv_lor hx hb d_La_law_262 ?_
          refine lv_topl (fun y78 _ => ?_)
          obtain ⟨_, _, _, he79⟩ := rd_M0 hSh
          refine va_callv (va_runV (As := [.int (nI j), .long y71, .long y78]) (rest := []) ⟨hx, hb, hml, hown, hG⟩ (k_Mo_keyXs l D g ad G G F N0 j y71 y78 hj (by omega)) (aw_wV 3 hG gw_10_41 gw_10_38 gw_0_10 gw_10_39 gw_10_40 rfl rfl hd_Mo_key ⟨Nat.le_of_ble_eq_true rfl, Nat.le_of_ble_eq_true rfl⟩) (aw_qV (va_recv hK hP rfl he79) hP hD hSh hU hS) rfl rfl hl.1 rfl (lv_room (Nat.le_of_ble_eq_true rfl)) d_La_law_263 ⟨by omega, by omega⟩) hS (fun _ _ h => h) (fun _ h => h) (fun u8 t8 H locs ht _ _ hB _ _ hS => ?_)
          obtain ⟨L, hP, hD, hSh⟩ := hB
          rw [ht] at hP
          clear ht
          refine lv_goto (tgt := 837) hx hb d_La_law_266 (by decide) ?_
          refine lv_iinc (k := 5) (v := nI (6 * t + 6)) hx hb d_La_law_837 hl rfl (aw_inc (6 * t) 6 6 (by decide +kernel)) (by decide) rfl (fun ls hl => ?_)
          have hl : lv_has ls 8 [(4, .int (nI (6 * t + 6))), (5, .int (nI 2)), (0, .ref b), (1, .ref (aw_r ad 0)), (2, .ref (aw_m ad 0)), (3, .ref (aw_o ad))] := hl
          refine lv_goto (tgt := 23) hx hb d_La_law_840 (by decide) ?_
          have hl := lv_sub hl (l' := [(0, .ref b), (1, .ref (aw_r ad 0)), (2, .ref (aw_m ad 0)), (3, .ref (aw_o ad)), (4, .int (nI (6 * t + 6)))]) [2, 3, 4, 5, 0] rfl
          refine W.widen (k := 85 + (t + 1)) (n := 1246 + 6 * (t + 1)) (by omega) (by omega) ?_
          exact ih (t + 1) G (nI 2) _ _ L ls (by omega) hP hD hSh hS (by first | exact hl | simpa [Nat.mul_add] using hl)
        · refine lv_aload_n hx hb d_La_law_156 rfl (lv_at hl 1 rfl) ?_
          refine lv_aload_n hx hb d_La_law_157 rfl (lv_at hl 0 rfl) ?_
          refine lv_iload hx hb d_La_law_158 (lv_at hl 4 rfl) ?_
          refine lv_iconst (v := nI 1) hx hb d_La_law_160 (by decide +kernel) ?_
          refine lv_iadd hx hb d_La_law_161 ?_
          refine aw_ti (nI_add (6 * t) 1) ?_
          refine va_sld hx hb hX hbl hbA hS (i := (nI ((6 * t) + 1))) (vp_in_nI (by omega) (by omega)) d_La_law_162 ?_
          refine aw_ti (y := nI j) (by rw [nI_clamp (by omega)]; exact hc0.symm) ?_
          refine lv_aload_n hx hb d_La_law_163 rfl (lv_at hl 0 rfl) ?_
          refine lv_iload hx hb d_La_law_164 (lv_at hl 4 rfl) ?_
          refine lv_iconst (v := nI 2) hx hb d_La_law_166 (by decide +kernel) ?_
          refine lv_iadd hx hb d_La_law_167 ?_
          refine aw_ti (nI_add (6 * t) 2) ?_
          refine va_sld hx hb hX hbl hbA hS (i := (nI ((6 * t) + 2))) (vp_in_nI (by omega) (by omega)) d_La_law_168 ?_
          refine lv_topi (fun x80 _ => ?_)
          refine lv_i2l hx hb d_La_law_169 rfl ?_
          refine lv_topl (fun y81 _ => ?_)
          refine lv_bipush (v := nI 32) hx hb d_La_law_170 (by decide +kernel) ?_
          refine lv_lshl hx hb d_La_law_172 rfl ?_
          refine lv_topl (fun y82 _ => ?_)
          refine lv_aload_n hx hb d_La_law_173 rfl (lv_at hl 0 rfl) ?_
          refine lv_iload hx hb d_La_law_174 (lv_at hl 4 rfl) ?_
          refine lv_iconst (v := nI 3) hx hb d_La_law_176 (by decide +kernel) ?_
          refine lv_iadd hx hb d_La_law_177 ?_
          refine aw_ti (nI_add (6 * t) 3) ?_
          refine va_sld hx hb hX hbl hbA hS (i := (nI ((6 * t) + 3))) (vp_in_nI (by omega) (by omega)) d_La_law_178 ?_
          refine lv_topi (fun x83 _ => ?_)
          refine lv_i2l hx hb d_La_law_179 rfl ?_
          refine lv_topl (fun y84 _ => ?_)
          refine lv_ldc2 (v := 4294967295) hx hb hown (hG _ gw_13_3) d_La_law_180 ?_
          refine lv_land hx hb d_La_law_183 ?_
          refine lv_topl (fun y85 _ => ?_)
          refine lv_lor hx hb d_La_law_184 ?_
          refine lv_topl (fun y86 _ => ?_)
          refine lv_aload_n hx hb d_La_law_185 rfl (lv_at hl 0 rfl) ?_
          refine lv_iload hx hb d_La_law_186 (lv_at hl 4 rfl) ?_
          refine lv_iconst (v := nI 4) hx hb d_La_law_188 (by decide +kernel) ?_
          refine lv_iadd hx hb d_La_law_189 ?_
          refine aw_ti (nI_add (6 * t) 4) ?_
          refine va_sld hx hb hX hbl hbA hS (i := (nI ((6 * t) + 4))) (vp_in_nI (by omega) (by omega)) d_La_law_190 ?_
          refine lv_topi (fun x87 _ => ?_)
          refine lv_i2l hx hb d_La_law_191 rfl ?_
          refine lv_topl (fun y88 _ => ?_)
          refine lv_bipush (v := nI 32) hx hb d_La_law_192 (by decide +kernel) ?_
          refine lv_lshl hx hb d_La_law_194 rfl ?_
          refine lv_topl (fun y89 _ => ?_)
          refine lv_aload_n hx hb d_La_law_195 rfl (lv_at hl 0 rfl) ?_
          refine lv_iload hx hb d_La_law_196 (lv_at hl 4 rfl) ?_
          refine lv_iconst (v := nI 5) hx hb d_La_law_198 (by decide +kernel) ?_
          refine lv_iadd hx hb d_La_law_199 ?_
          refine aw_ti (nI_add (6 * t) 5) ?_
          refine va_sld hx hb hX hbl hbA hS (i := (nI ((6 * t) + 5))) (vp_in_nI (by omega) (by omega)) d_La_law_200 ?_
          refine lv_topi (fun x90 _ => ?_)
          refine lv_i2l hx hb d_La_law_201 rfl ?_
          refine lv_topl (fun y91 _ => ?_)
          refine lv_ldc2 (v := 4294967295) hx hb hown (hG _ gw_13_3) d_La_law_202 ?_
          refine lv_land hx hb d_La_law_205 ?_
          refine lv_topl (fun y92 _ => ?_)
          refine lv_lor hx hb d_La_law_206 ?_
          refine lv_topl (fun y93 _ => ?_)
          refine va_calli (vx_runSW (As := [.ref (aw_r ad 0), .int (nI j), .long y86, .long y93]) (rest := []) ⟨hx, hb, hml, hown, hG⟩ (k_La_key1 l hst D g ad G G F N0 j y86 y93 hj (by omega)) (aw_wW 4 hG gw_4_19 gw_4_17 gw_0_0 gw_4_18 rfl rfl hd_La_key ⟨Nat.le_of_ble_eq_true rfl, Nat.le_of_ble_eq_true rfl⟩) (aw_qS hP hD hSh hU hS) rfl rfl hl.1 rfl (lv_room (Nat.le_of_ble_eq_true rfl)) d_La_law_207 ⟨by omega, by omega⟩) hS (fun _ _ h => h) (fun _ h => h) (fun x94 u8 t8 H locs ht _ hpx94 hB _ _ hS => ?_)
          obtain ⟨L, hP, hD, hSh⟩ := hB
          rw [ht] at hP
          clear ht
          subst hpx94
          refine lv_istore hx hb d_La_law_210 hl (by decide) rfl (fun ls hl => ?_)
          have hl : lv_has ls 8 [(5, .int (nI 0)), (0, .ref b), (1, .ref (aw_r ad 0)), (2, .ref (aw_m ad 0)), (3, .ref (aw_o ad)), (4, .int (nI (6 * t)))] := hl
          refine lv_aload_n hx hb d_La_law_212 rfl (lv_at hl 3 rfl) ?_
          refine lv_aload_n hx hb d_La_law_213 rfl (lv_at hl 1 rfl) ?_
          refine lv_iload hx hb d_La_law_214 (lv_at hl 5 rfl) ?_
          refine lv_iconst (v := nI 1) hx hb d_La_law_216 (by decide +kernel) ?_
          refine lv_iadd hx hb d_La_law_217 ?_
          refine aw_ti (nI_add (6 * t) 1) ?_
          refine va_sld hx hb hX hbl hbA hS (i := (nI ((6 * t) + 1))) (vp_in_nI (by omega) (by omega)) d_La_law_218 ?_
          refine aw_ti (y := nI j) (by rw [nI_clamp (by omega)]; exact hc0.symm) ?_
          refine lv_aload_n hx hb d_La_law_219 rfl (lv_at hl 1 rfl) ?_
          refine lv_iload hx hb d_La_law_220 (lv_at hl 5 rfl) ?_
          refine lv_iconst (v := nI 2) hx hb d_La_law_222 (by decide +kernel) ?_
          refine lv_iadd hx hb d_La_law_223 ?_
          refine aw_ti (nI_add (6 * t) 2) ?_
          refine va_sld hx hb hX hbl hbA hS (i := (nI ((6 * t) + 2))) (vp_in_nI (by omega) (by omega)) d_La_law_224 ?_
          refine lv_topi (fun x95 _ => ?_)
          refine lv_i2l hx hb d_La_law_225 rfl ?_
          refine lv_topl (fun y96 _ => ?_)
          refine lv_bipush (v := nI 32) hx hb d_La_law_226 (by decide +kernel) ?_
          refine lv_lshl hx hb d_La_law_228 rfl ?_
          refine lv_topl (fun y97 _ => ?_)
          refine lv_aload_n hx hb d_La_law_229 rfl (lv_at hl 1 rfl) ?_
          refine lv_iload hx hb d_La_law_230 (lv_at hl 5 rfl) ?_
          refine lv_iconst (v := nI 3) hx hb d_La_law_232 (by decide +kernel) ?_
          refine lv_iadd hx hb d_La_law_233 ?_
          refine aw_ti (nI_add (6 * t) 3) ?_
          refine va_sld hx hb hX hbl hbA hS (i := (nI ((6 * t) + 3))) (vp_in_nI (by omega) (by omega)) d_La_law_234 ?_
          refine lv_topi (fun x98 _ => ?_)
          refine lv_i2l hx hb d_La_law_235 rfl ?_
          refine lv_topl (fun y99 _ => ?_)
          refine lv_ldc2 (v := 4294967295) hx hb hown (hG _ gw_13_3) d_La_law_236 ?_
          refine lv_land hx hb d_La_law_239 ?_
          refine lv_topl (fun y100 _ => ?_)
          refine lv_lor hx hb d_La_law_240 ?_
          refine lv_topl (fun y101 _ => ?_)
          refine lv_aload_n hx hb d_La_law_241 rfl (lv_at hl 1 rfl) ?_
          refine lv_iload hx hb d_La_law_242 (lv_at hl 5 rfl) ?_
          refine lv_iconst (v := nI 4) hx hb d_La_law_244 (by decide +kernel) ?_
          refine lv_iadd hx hb d_La_law_245 ?_
          refine aw_ti (nI_add (6 * t) 4) ?_
          refine va_sld hx hb hX hbl hbA hS (i := (nI ((6 * t) + 4))) (vp_in_nI (by omega) (by omega)) d_La_law_246 ?_
          refine lv_topi (fun x102 _ => ?_)
          refine lv_i2l hx hb d_La_law_247 rfl ?_
          refine lv_topl (fun y103 _ => ?_)
          refine lv_bipush (v := nI 32) hx hb d_La_law_248 (by decide +kernel) ?_
          refine lv_lshl hx hb d_La_law_250 rfl ?_
          refine lv_topl (fun y104 _ => ?_)
          refine lv_aload_n hx hb d_La_law_251 rfl (lv_at hl 1 rfl) ?_
          refine lv_iload hx hb d_La_law_252 (lv_at hl 5 rfl) ?_
          refine lv_iconst (v := nI 5) hx hb d_La_law_254 (by decide +kernel) ?_
          refine lv_iadd hx hb d_La_law_255 ?_
          refine aw_ti (nI_add (6 * t) 5) ?_
          refine va_sld hx hb hX hbl hbA hS (i := (nI ((6 * t) + 5))) (vp_in_nI (by omega) (by omega)) d_La_law_256 ?_
          refine lv_topi (fun x105 _ => ?_)
          refine lv_i2l hx hb d_La_law_257 rfl ?_
          refine lv_topl (fun y106 _ => ?_)
          refine lv_ldc2 (v := 4294967295) hx hb hown (hG _ gw_13_3) d_La_law_258 ?_
          refine lv_land hx hb d_La_law_261 ?_
          refine lv_topl (fun y107 _ => ?_)
          refine lv_lor hx hb d_La_law_262 ?_
          refine lv_topl (fun y108 _ => ?_)
          obtain ⟨_, _, _, he109⟩ := rd_M0 hSh
          refine va_callv (va_runV (As := [.int (nI j), .long y101, .long y108]) (rest := []) ⟨hx, hb, hml, hown, hG⟩ (k_Mo_key1 l D g ad (aw_g1 G j 2) G F N0 j y101 y108 hj (by omega)) (aw_wV 3 hG gw_10_41 gw_10_38 gw_0_10 gw_10_39 gw_10_40 rfl rfl hd_Mo_key ⟨Nat.le_of_ble_eq_true rfl, Nat.le_of_ble_eq_true rfl⟩) (aw_qV (va_recv hK hP rfl he109) hP hD hSh hU hS) rfl rfl hl.1 rfl (lv_room (Nat.le_of_ble_eq_true rfl)) d_La_law_263 ⟨by omega, by omega⟩) hS (fun _ _ h => h) (fun _ h => h) (fun u8 t8 H locs ht _ _ hB _ _ hS => ?_)
          obtain ⟨L, hP, hD, hSh⟩ := hB
          rw [ht] at hP
          clear ht
          refine lv_goto (tgt := 837) hx hb d_La_law_266 (by decide) ?_
          refine lv_iinc (k := 5) (v := nI (6 * t + 6)) hx hb d_La_law_837 hl rfl (aw_inc (6 * t) 6 6 (by decide +kernel)) (by decide) rfl (fun ls hl => ?_)
          have hl : lv_has ls 8 [(4, .int (nI (6 * t + 6))), (5, .int (nI 0)), (0, .ref b), (1, .ref (aw_r ad 0)), (2, .ref (aw_m ad 0)), (3, .ref (aw_o ad))] := hl
          refine lv_goto (tgt := 23) hx hb d_La_law_840 (by decide) ?_
          have hl := lv_sub hl (l' := [(0, .ref b), (1, .ref (aw_r ad 0)), (2, .ref (aw_m ad 0)), (3, .ref (aw_o ad)), (4, .int (nI (6 * t + 6)))]) [2, 3, 4, 5, 0] rfl
          refine W.widen (k := 85 + (t + 1)) (n := 1246 + 6 * (t + 1)) (by omega) (by omega) ?_
          exact ih (t + 1) (aw_g1 G j 2) (nI 0) _ _ L ls (by omega) hP hD hSh hS (by first | exact hl | simpa [Nat.mul_add] using hl)
    · refine aw_ti (y := nI 2) (by rw [hs3]) ?_
      refine lv_tableIn (tgt := 269) (off := 229) hx hb d_La_law_40 (by decide +kernel) (by decide +kernel) (by decide +kernel) (by decide) ?_
      obtain ⟨c0, hc0⟩ : ∃ z : Int32, z = xs (6 * t + 1) := ⟨_, rfl⟩
      obtain ⟨k0, hk0⟩ : ∃ z : Int32, z = xs (6 * t + 2) := ⟨_, rfl⟩
      rcases aw_rng 4 (by decide) c0 with hc | ⟨j, hj, rfl⟩
      · refine lv_aload_n hx hb d_La_law_269 rfl (lv_at hl 1 rfl) ?_
        refine lv_aload_n hx hb d_La_law_270 rfl (lv_at hl 0 rfl) ?_
        refine lv_iload hx hb d_La_law_271 (lv_at hl 4 rfl) ?_
        refine lv_iconst (v := nI 1) hx hb d_La_law_273 (by decide +kernel) ?_
        refine lv_iadd hx hb d_La_law_274 ?_
        refine aw_ti (nI_add (6 * t) 1) ?_
        refine va_sld hx hb hX hbl hbA hS (i := (nI ((6 * t) + 1))) (vp_in_nI (by omega) (by omega)) d_La_law_275 ?_
        refine aw_ti (y := c0) (by rw [nI_clamp (by omega)]; exact hc0.symm) ?_
        refine lv_aload_n hx hb d_La_law_276 rfl (lv_at hl 0 rfl) ?_
        refine lv_iload hx hb d_La_law_277 (lv_at hl 4 rfl) ?_
        refine lv_iconst (v := nI 2) hx hb d_La_law_279 (by decide +kernel) ?_
        refine lv_iadd hx hb d_La_law_280 ?_
        refine aw_ti (nI_add (6 * t) 2) ?_
        refine va_sld hx hb hX hbl hbA hS (i := (nI ((6 * t) + 2))) (vp_in_nI (by omega) (by omega)) d_La_law_281 ?_
        refine aw_ti (y := k0) (by rw [nI_clamp (by omega)]; exact hk0.symm) ?_
        refine lv_aload_n hx hb d_La_law_282 rfl (lv_at hl 0 rfl) ?_
        refine lv_iload hx hb d_La_law_283 (lv_at hl 4 rfl) ?_
        refine lv_iconst (v := nI 3) hx hb d_La_law_285 (by decide +kernel) ?_
        refine lv_iadd hx hb d_La_law_286 ?_
        refine aw_ti (nI_add (6 * t) 3) ?_
        refine va_sld hx hb hX hbl hbA hS (i := (nI ((6 * t) + 3))) (vp_in_nI (by omega) (by omega)) d_La_law_287 ?_
        refine lv_topi (fun x110 _ => ?_)
        refine lv_i2l hx hb d_La_law_288 rfl ?_
        refine lv_topl (fun y111 _ => ?_)
        refine lv_bipush (v := nI 32) hx hb d_La_law_289 (by decide +kernel) ?_
        refine lv_lshl hx hb d_La_law_291 rfl ?_
        refine lv_topl (fun y112 _ => ?_)
        refine lv_aload_n hx hb d_La_law_292 rfl (lv_at hl 0 rfl) ?_
        refine lv_iload hx hb d_La_law_293 (lv_at hl 4 rfl) ?_
        refine lv_iconst (v := nI 4) hx hb d_La_law_295 (by decide +kernel) ?_
        refine lv_iadd hx hb d_La_law_296 ?_
        refine aw_ti (nI_add (6 * t) 4) ?_
        refine va_sld hx hb hX hbl hbA hS (i := (nI ((6 * t) + 4))) (vp_in_nI (by omega) (by omega)) d_La_law_297 ?_
        refine lv_topi (fun x113 _ => ?_)
        refine lv_i2l hx hb d_La_law_298 rfl ?_
        refine lv_topl (fun y114 _ => ?_)
        refine lv_ldc2 (v := 4294967295) hx hb hown (hG _ gw_13_3) d_La_law_299 ?_
        refine lv_land hx hb d_La_law_302 ?_
        refine lv_topl (fun y115 _ => ?_)
        refine lv_lor hx hb d_La_law_303 ?_
        refine lv_topl (fun y116 _ => ?_)
        refine va_calli (vx_runSW (As := [.ref (aw_r ad 0), .int c0, .int k0, .long y116]) (rest := []) ⟨hx, hb, hml, hown, hG⟩ (k_La_modeXc l hst D g ad G G F N0 c0 k0 y116 hc) (aw_wW 4 hG gw_5_23 gw_5_21 gw_0_0 gw_5_22 rfl rfl hd_La_mode ⟨Nat.le_of_ble_eq_true rfl, Nat.le_of_ble_eq_true rfl⟩) (aw_qS hP hD hSh hU hS) rfl rfl hl.1 rfl (lv_room (Nat.le_of_ble_eq_true rfl)) d_La_law_304 ⟨by omega, by omega⟩) hS (fun _ _ h => h) (fun _ h => h) (fun x117 u8 t8 H locs ht _ hpx117 hB _ _ hS => ?_)
        obtain ⟨L, hP, hD, hSh⟩ := hB
        rw [ht] at hP
        clear ht
        subst hpx117
        refine lv_istore hx hb d_La_law_307 hl (by decide) rfl (fun ls hl => ?_)
        have hl : lv_has ls 8 [(5, .int (nI 1)), (0, .ref b), (1, .ref (aw_r ad 0)), (2, .ref (aw_m ad 0)), (3, .ref (aw_o ad)), (4, .int (nI (6 * t)))] := hl
        refine lv_aload_n hx hb d_La_law_309 rfl (lv_at hl 3 rfl) ?_
        refine lv_aload_n hx hb d_La_law_310 rfl (lv_at hl 1 rfl) ?_
        refine lv_iload hx hb d_La_law_311 (lv_at hl 5 rfl) ?_
        refine lv_iconst (v := nI 1) hx hb d_La_law_313 (by decide +kernel) ?_
        refine lv_iadd hx hb d_La_law_314 ?_
        refine aw_ti (nI_add (6 * t) 1) ?_
        refine va_sld hx hb hX hbl hbA hS (i := (nI ((6 * t) + 1))) (vp_in_nI (by omega) (by omega)) d_La_law_315 ?_
        refine aw_ti (y := c0) (by rw [nI_clamp (by omega)]; exact hc0.symm) ?_
        refine lv_aload_n hx hb d_La_law_316 rfl (lv_at hl 1 rfl) ?_
        refine lv_iload hx hb d_La_law_317 (lv_at hl 5 rfl) ?_
        refine lv_iconst (v := nI 2) hx hb d_La_law_319 (by decide +kernel) ?_
        refine lv_iadd hx hb d_La_law_320 ?_
        refine aw_ti (nI_add (6 * t) 2) ?_
        refine va_sld hx hb hX hbl hbA hS (i := (nI ((6 * t) + 2))) (vp_in_nI (by omega) (by omega)) d_La_law_321 ?_
        refine aw_ti (y := k0) (by rw [nI_clamp (by omega)]; exact hk0.symm) ?_
        refine lv_aload_n hx hb d_La_law_322 rfl (lv_at hl 1 rfl) ?_
        refine lv_iload hx hb d_La_law_323 (lv_at hl 5 rfl) ?_
        refine lv_iconst (v := nI 3) hx hb d_La_law_325 (by decide +kernel) ?_
        refine lv_iadd hx hb d_La_law_326 ?_
        refine aw_ti (nI_add (6 * t) 3) ?_
        refine va_sld hx hb hX hbl hbA hS (i := (nI ((6 * t) + 3))) (vp_in_nI (by omega) (by omega)) d_La_law_327 ?_
        refine lv_topi (fun x118 _ => ?_)
        refine lv_i2l hx hb d_La_law_328 rfl ?_
        refine lv_topl (fun y119 _ => ?_)
        refine lv_bipush (v := nI 32) hx hb d_La_law_329 (by decide +kernel) ?_
        refine lv_lshl hx hb d_La_law_331 rfl ?_
        refine lv_topl (fun y120 _ => ?_)
        refine lv_aload_n hx hb d_La_law_332 rfl (lv_at hl 1 rfl) ?_
        refine lv_iload hx hb d_La_law_333 (lv_at hl 5 rfl) ?_
        refine lv_iconst (v := nI 4) hx hb d_La_law_335 (by decide +kernel) ?_
        refine lv_iadd hx hb d_La_law_336 ?_
        refine aw_ti (nI_add (6 * t) 4) ?_
        refine va_sld hx hb hX hbl hbA hS (i := (nI ((6 * t) + 4))) (vp_in_nI (by omega) (by omega)) d_La_law_337 ?_
        refine lv_topi (fun x121 _ => ?_)
        refine lv_i2l hx hb d_La_law_338 rfl ?_
        refine lv_topl (fun y122 _ => ?_)
        refine lv_ldc2 (v := 4294967295) hx hb hown (hG _ gw_13_3) d_La_law_339 ?_
        refine lv_land hx hb d_La_law_342 ?_
        refine lv_topl (fun y123 _ => ?_)
        refine lv_lor hx hb d_La_law_343 ?_
        refine lv_topl (fun y124 _ => ?_)
        obtain ⟨_, _, _, he125⟩ := rd_M0 hSh
        refine va_callv (va_runV (As := [.int c0, .int k0, .long y124]) (rest := []) ⟨hx, hb, hml, hown, hG⟩ (k_Mo_modeXc l D g ad G G F N0 c0 k0 y124 hc) (aw_wV 3 hG gw_10_45 gw_10_42 gw_0_10 gw_10_43 gw_10_44 rfl rfl hd_Mo_mode ⟨Nat.le_of_ble_eq_true rfl, Nat.le_of_ble_eq_true rfl⟩) (aw_qV (va_recv hK hP rfl he125) hP hD hSh hU hS) rfl rfl hl.1 rfl (lv_room (Nat.le_of_ble_eq_true rfl)) d_La_law_344 ⟨by omega, by omega⟩) hS (fun _ _ h => h) (fun _ h => h) (fun u8 t8 H locs ht _ _ hB _ _ hS => ?_)
        obtain ⟨L, hP, hD, hSh⟩ := hB
        rw [ht] at hP
        clear ht
        refine lv_goto (tgt := 837) hx hb d_La_law_347 (by decide) ?_
        refine lv_iinc (k := 5) (v := nI (6 * t + 6)) hx hb d_La_law_837 hl rfl (aw_inc (6 * t) 6 6 (by decide +kernel)) (by decide) rfl (fun ls hl => ?_)
        have hl : lv_has ls 8 [(4, .int (nI (6 * t + 6))), (5, .int (nI 1)), (0, .ref b), (1, .ref (aw_r ad 0)), (2, .ref (aw_m ad 0)), (3, .ref (aw_o ad))] := hl
        refine lv_goto (tgt := 23) hx hb d_La_law_840 (by decide) ?_
        have hl := lv_sub hl (l' := [(0, .ref b), (1, .ref (aw_r ad 0)), (2, .ref (aw_m ad 0)), (3, .ref (aw_o ad)), (4, .int (nI (6 * t + 6)))]) [2, 3, 4, 5, 0] rfl
        refine W.widen (k := 85 + (t + 1)) (n := 1246 + 6 * (t + 1)) (by omega) (by omega) ?_
        exact ih (t + 1) G (nI 1) _ _ L ls (by omega) hP hD hSh hS (by first | exact hl | simpa [Nat.mul_add] using hl)
      · have hgj := hSh.2.2.2.2.1 j hj
        rcases aw_ovr 5 (by decide) k0 with hk | ⟨k, hk, rfl⟩
        · refine lv_aload_n hx hb d_La_law_269 rfl (lv_at hl 1 rfl) ?_
          refine lv_aload_n hx hb d_La_law_270 rfl (lv_at hl 0 rfl) ?_
          refine lv_iload hx hb d_La_law_271 (lv_at hl 4 rfl) ?_
          refine lv_iconst (v := nI 1) hx hb d_La_law_273 (by decide +kernel) ?_
          refine lv_iadd hx hb d_La_law_274 ?_
          refine aw_ti (nI_add (6 * t) 1) ?_
          refine va_sld hx hb hX hbl hbA hS (i := (nI ((6 * t) + 1))) (vp_in_nI (by omega) (by omega)) d_La_law_275 ?_
          refine aw_ti (y := nI j) (by rw [nI_clamp (by omega)]; exact hc0.symm) ?_
          refine lv_aload_n hx hb d_La_law_276 rfl (lv_at hl 0 rfl) ?_
          refine lv_iload hx hb d_La_law_277 (lv_at hl 4 rfl) ?_
          refine lv_iconst (v := nI 2) hx hb d_La_law_279 (by decide +kernel) ?_
          refine lv_iadd hx hb d_La_law_280 ?_
          refine aw_ti (nI_add (6 * t) 2) ?_
          refine va_sld hx hb hX hbl hbA hS (i := (nI ((6 * t) + 2))) (vp_in_nI (by omega) (by omega)) d_La_law_281 ?_
          refine aw_ti (y := k0) (by rw [nI_clamp (by omega)]; exact hk0.symm) ?_
          refine lv_aload_n hx hb d_La_law_282 rfl (lv_at hl 0 rfl) ?_
          refine lv_iload hx hb d_La_law_283 (lv_at hl 4 rfl) ?_
          refine lv_iconst (v := nI 3) hx hb d_La_law_285 (by decide +kernel) ?_
          refine lv_iadd hx hb d_La_law_286 ?_
          refine aw_ti (nI_add (6 * t) 3) ?_
          refine va_sld hx hb hX hbl hbA hS (i := (nI ((6 * t) + 3))) (vp_in_nI (by omega) (by omega)) d_La_law_287 ?_
          refine lv_topi (fun x126 _ => ?_)
          refine lv_i2l hx hb d_La_law_288 rfl ?_
          refine lv_topl (fun y127 _ => ?_)
          refine lv_bipush (v := nI 32) hx hb d_La_law_289 (by decide +kernel) ?_
          refine lv_lshl hx hb d_La_law_291 rfl ?_
          refine lv_topl (fun y128 _ => ?_)
          refine lv_aload_n hx hb d_La_law_292 rfl (lv_at hl 0 rfl) ?_
          refine lv_iload hx hb d_La_law_293 (lv_at hl 4 rfl) ?_
          refine lv_iconst (v := nI 4) hx hb d_La_law_295 (by decide +kernel) ?_
          refine lv_iadd hx hb d_La_law_296 ?_
          refine aw_ti (nI_add (6 * t) 4) ?_
          refine va_sld hx hb hX hbl hbA hS (i := (nI ((6 * t) + 4))) (vp_in_nI (by omega) (by omega)) d_La_law_297 ?_
          refine lv_topi (fun x129 _ => ?_)
          refine lv_i2l hx hb d_La_law_298 rfl ?_
          refine lv_topl (fun y130 _ => ?_)
          refine lv_ldc2 (v := 4294967295) hx hb hown (hG _ gw_13_3) d_La_law_299 ?_
          refine lv_land hx hb d_La_law_302 ?_
          refine lv_topl (fun y131 _ => ?_)
          refine lv_lor hx hb d_La_law_303 ?_
          refine lv_topl (fun y132 _ => ?_)
          refine va_calli (vx_runSW (As := [.ref (aw_r ad 0), .int (nI j), .int k0, .long y132]) (rest := []) ⟨hx, hb, hml, hown, hG⟩ (k_La_modeXa l hst D g ad G G F N0 j k0 y132 hj hk) (aw_wW 4 hG gw_5_23 gw_5_21 gw_0_0 gw_5_22 rfl rfl hd_La_mode ⟨Nat.le_of_ble_eq_true rfl, Nat.le_of_ble_eq_true rfl⟩) (aw_qS hP hD hSh hU hS) rfl rfl hl.1 rfl (lv_room (Nat.le_of_ble_eq_true rfl)) d_La_law_304 ⟨by omega, by omega⟩) hS (fun _ _ h => h) (fun _ h => h) (fun x133 u8 t8 H locs ht _ hpx133 hB _ _ hS => ?_)
          obtain ⟨L, hP, hD, hSh⟩ := hB
          rw [ht] at hP
          clear ht
          subst hpx133
          refine lv_istore hx hb d_La_law_307 hl (by decide) rfl (fun ls hl => ?_)
          have hl : lv_has ls 8 [(5, .int (nI 2)), (0, .ref b), (1, .ref (aw_r ad 0)), (2, .ref (aw_m ad 0)), (3, .ref (aw_o ad)), (4, .int (nI (6 * t)))] := hl
          refine lv_aload_n hx hb d_La_law_309 rfl (lv_at hl 3 rfl) ?_
          refine lv_aload_n hx hb d_La_law_310 rfl (lv_at hl 1 rfl) ?_
          refine lv_iload hx hb d_La_law_311 (lv_at hl 5 rfl) ?_
          refine lv_iconst (v := nI 1) hx hb d_La_law_313 (by decide +kernel) ?_
          refine lv_iadd hx hb d_La_law_314 ?_
          refine aw_ti (nI_add (6 * t) 1) ?_
          refine va_sld hx hb hX hbl hbA hS (i := (nI ((6 * t) + 1))) (vp_in_nI (by omega) (by omega)) d_La_law_315 ?_
          refine aw_ti (y := nI j) (by rw [nI_clamp (by omega)]; exact hc0.symm) ?_
          refine lv_aload_n hx hb d_La_law_316 rfl (lv_at hl 1 rfl) ?_
          refine lv_iload hx hb d_La_law_317 (lv_at hl 5 rfl) ?_
          refine lv_iconst (v := nI 2) hx hb d_La_law_319 (by decide +kernel) ?_
          refine lv_iadd hx hb d_La_law_320 ?_
          refine aw_ti (nI_add (6 * t) 2) ?_
          refine va_sld hx hb hX hbl hbA hS (i := (nI ((6 * t) + 2))) (vp_in_nI (by omega) (by omega)) d_La_law_321 ?_
          refine aw_ti (y := k0) (by rw [nI_clamp (by omega)]; exact hk0.symm) ?_
          refine lv_aload_n hx hb d_La_law_322 rfl (lv_at hl 1 rfl) ?_
          refine lv_iload hx hb d_La_law_323 (lv_at hl 5 rfl) ?_
          refine lv_iconst (v := nI 3) hx hb d_La_law_325 (by decide +kernel) ?_
          refine lv_iadd hx hb d_La_law_326 ?_
          refine aw_ti (nI_add (6 * t) 3) ?_
          refine va_sld hx hb hX hbl hbA hS (i := (nI ((6 * t) + 3))) (vp_in_nI (by omega) (by omega)) d_La_law_327 ?_
          refine lv_topi (fun x134 _ => ?_)
          refine lv_i2l hx hb d_La_law_328 rfl ?_
          refine lv_topl (fun y135 _ => ?_)
          refine lv_bipush (v := nI 32) hx hb d_La_law_329 (by decide +kernel) ?_
          refine lv_lshl hx hb d_La_law_331 rfl ?_
          refine lv_topl (fun y136 _ => ?_)
          refine lv_aload_n hx hb d_La_law_332 rfl (lv_at hl 1 rfl) ?_
          refine lv_iload hx hb d_La_law_333 (lv_at hl 5 rfl) ?_
          refine lv_iconst (v := nI 4) hx hb d_La_law_335 (by decide +kernel) ?_
          refine lv_iadd hx hb d_La_law_336 ?_
          refine aw_ti (nI_add (6 * t) 4) ?_
          refine va_sld hx hb hX hbl hbA hS (i := (nI ((6 * t) + 4))) (vp_in_nI (by omega) (by omega)) d_La_law_337 ?_
          refine lv_topi (fun x137 _ => ?_)
          refine lv_i2l hx hb d_La_law_338 rfl ?_
          refine lv_topl (fun y138 _ => ?_)
          refine lv_ldc2 (v := 4294967295) hx hb hown (hG _ gw_13_3) d_La_law_339 ?_
          refine lv_land hx hb d_La_law_342 ?_
          refine lv_topl (fun y139 _ => ?_)
          refine lv_lor hx hb d_La_law_343 ?_
          refine lv_topl (fun y140 _ => ?_)
          obtain ⟨_, _, _, he141⟩ := rd_M0 hSh
          refine va_callv (va_runV (As := [.int (nI j), .int k0, .long y140]) (rest := []) ⟨hx, hb, hml, hown, hG⟩ (k_Mo_modeXa l D g ad G G F N0 j k0 y140 hj hk) (aw_wV 3 hG gw_10_45 gw_10_42 gw_0_10 gw_10_43 gw_10_44 rfl rfl hd_Mo_mode ⟨Nat.le_of_ble_eq_true rfl, Nat.le_of_ble_eq_true rfl⟩) (aw_qV (va_recv hK hP rfl he141) hP hD hSh hU hS) rfl rfl hl.1 rfl (lv_room (Nat.le_of_ble_eq_true rfl)) d_La_law_344 ⟨by omega, by omega⟩) hS (fun _ _ h => h) (fun _ h => h) (fun u8 t8 H locs ht _ _ hB _ _ hS => ?_)
          obtain ⟨L, hP, hD, hSh⟩ := hB
          rw [ht] at hP
          clear ht
          refine lv_goto (tgt := 837) hx hb d_La_law_347 (by decide) ?_
          refine lv_iinc (k := 5) (v := nI (6 * t + 6)) hx hb d_La_law_837 hl rfl (aw_inc (6 * t) 6 6 (by decide +kernel)) (by decide) rfl (fun ls hl => ?_)
          have hl : lv_has ls 8 [(4, .int (nI (6 * t + 6))), (5, .int (nI 2)), (0, .ref b), (1, .ref (aw_r ad 0)), (2, .ref (aw_m ad 0)), (3, .ref (aw_o ad))] := hl
          refine lv_goto (tgt := 23) hx hb d_La_law_840 (by decide) ?_
          have hl := lv_sub hl (l' := [(0, .ref b), (1, .ref (aw_r ad 0)), (2, .ref (aw_m ad 0)), (3, .ref (aw_o ad)), (4, .int (nI (6 * t + 6)))]) [2, 3, 4, 5, 0] rfl
          refine W.widen (k := 85 + (t + 1)) (n := 1246 + 6 * (t + 1)) (by omega) (by omega) ?_
          exact ih (t + 1) G (nI 2) _ _ L ls (by omega) hP hD hSh hS (by first | exact hl | simpa [Nat.mul_add] using hl)
        · by_cases hs : 2 ≤ (G j).1
          · refine lv_aload_n hx hb d_La_law_269 rfl (lv_at hl 1 rfl) ?_
            refine lv_aload_n hx hb d_La_law_270 rfl (lv_at hl 0 rfl) ?_
            refine lv_iload hx hb d_La_law_271 (lv_at hl 4 rfl) ?_
            refine lv_iconst (v := nI 1) hx hb d_La_law_273 (by decide +kernel) ?_
            refine lv_iadd hx hb d_La_law_274 ?_
            refine aw_ti (nI_add (6 * t) 1) ?_
            refine va_sld hx hb hX hbl hbA hS (i := (nI ((6 * t) + 1))) (vp_in_nI (by omega) (by omega)) d_La_law_275 ?_
            refine aw_ti (y := nI j) (by rw [nI_clamp (by omega)]; exact hc0.symm) ?_
            refine lv_aload_n hx hb d_La_law_276 rfl (lv_at hl 0 rfl) ?_
            refine lv_iload hx hb d_La_law_277 (lv_at hl 4 rfl) ?_
            refine lv_iconst (v := nI 2) hx hb d_La_law_279 (by decide +kernel) ?_
            refine lv_iadd hx hb d_La_law_280 ?_
            refine aw_ti (nI_add (6 * t) 2) ?_
            refine va_sld hx hb hX hbl hbA hS (i := (nI ((6 * t) + 2))) (vp_in_nI (by omega) (by omega)) d_La_law_281 ?_
            refine aw_ti (y := nI k) (by rw [nI_clamp (by omega)]; exact hk0.symm) ?_
            refine lv_aload_n hx hb d_La_law_282 rfl (lv_at hl 0 rfl) ?_
            refine lv_iload hx hb d_La_law_283 (lv_at hl 4 rfl) ?_
            refine lv_iconst (v := nI 3) hx hb d_La_law_285 (by decide +kernel) ?_
            refine lv_iadd hx hb d_La_law_286 ?_
            refine aw_ti (nI_add (6 * t) 3) ?_
            refine va_sld hx hb hX hbl hbA hS (i := (nI ((6 * t) + 3))) (vp_in_nI (by omega) (by omega)) d_La_law_287 ?_
            refine lv_topi (fun x142 _ => ?_)
            refine lv_i2l hx hb d_La_law_288 rfl ?_
            refine lv_topl (fun y143 _ => ?_)
            refine lv_bipush (v := nI 32) hx hb d_La_law_289 (by decide +kernel) ?_
            refine lv_lshl hx hb d_La_law_291 rfl ?_
            refine lv_topl (fun y144 _ => ?_)
            refine lv_aload_n hx hb d_La_law_292 rfl (lv_at hl 0 rfl) ?_
            refine lv_iload hx hb d_La_law_293 (lv_at hl 4 rfl) ?_
            refine lv_iconst (v := nI 4) hx hb d_La_law_295 (by decide +kernel) ?_
            refine lv_iadd hx hb d_La_law_296 ?_
            refine aw_ti (nI_add (6 * t) 4) ?_
            refine va_sld hx hb hX hbl hbA hS (i := (nI ((6 * t) + 4))) (vp_in_nI (by omega) (by omega)) d_La_law_297 ?_
            refine lv_topi (fun x145 _ => ?_)
            refine lv_i2l hx hb d_La_law_298 rfl ?_
            refine lv_topl (fun y146 _ => ?_)
            refine lv_ldc2 (v := 4294967295) hx hb hown (hG _ gw_13_3) d_La_law_299 ?_
            refine lv_land hx hb d_La_law_302 ?_
            refine lv_topl (fun y147 _ => ?_)
            refine lv_lor hx hb d_La_law_303 ?_
            refine lv_topl (fun y148 _ => ?_)
            refine va_calli (vx_runSW (As := [.ref (aw_r ad 0), .int (nI j), .int (nI k), .long y148]) (rest := []) ⟨hx, hb, hml, hown, hG⟩ (k_La_mode1 l hst D g ad G G F N0 j k y148 hj (by omega) (by omega)) (aw_wW 4 hG gw_5_23 gw_5_21 gw_0_0 gw_5_22 rfl rfl hd_La_mode ⟨Nat.le_of_ble_eq_true rfl, Nat.le_of_ble_eq_true rfl⟩) (aw_qS hP hD hSh hU hS) rfl rfl hl.1 rfl (lv_room (Nat.le_of_ble_eq_true rfl)) d_La_law_304 ⟨by omega, by omega⟩) hS (fun _ _ h => h) (fun _ h => h) (fun x149 u8 t8 H locs ht _ hpx149 hB _ _ hS => ?_)
            obtain ⟨L, hP, hD, hSh⟩ := hB
            rw [ht] at hP
            clear ht
            subst hpx149
            refine lv_istore hx hb d_La_law_307 hl (by decide) rfl (fun ls hl => ?_)
            have hl : lv_has ls 8 [(5, .int (nI 0)), (0, .ref b), (1, .ref (aw_r ad 0)), (2, .ref (aw_m ad 0)), (3, .ref (aw_o ad)), (4, .int (nI (6 * t)))] := hl
            refine lv_aload_n hx hb d_La_law_309 rfl (lv_at hl 3 rfl) ?_
            refine lv_aload_n hx hb d_La_law_310 rfl (lv_at hl 1 rfl) ?_
            refine lv_iload hx hb d_La_law_311 (lv_at hl 5 rfl) ?_
            refine lv_iconst (v := nI 1) hx hb d_La_law_313 (by decide +kernel) ?_
            refine lv_iadd hx hb d_La_law_314 ?_
            refine aw_ti (nI_add (6 * t) 1) ?_
            refine va_sld hx hb hX hbl hbA hS (i := (nI ((6 * t) + 1))) (vp_in_nI (by omega) (by omega)) d_La_law_315 ?_
            refine aw_ti (y := nI j) (by rw [nI_clamp (by omega)]; exact hc0.symm) ?_
            refine lv_aload_n hx hb d_La_law_316 rfl (lv_at hl 1 rfl) ?_
            refine lv_iload hx hb d_La_law_317 (lv_at hl 5 rfl) ?_
            refine lv_iconst (v := nI 2) hx hb d_La_law_319 (by decide +kernel) ?_
            refine lv_iadd hx hb d_La_law_320 ?_
            refine aw_ti (nI_add (6 * t) 2) ?_
            refine va_sld hx hb hX hbl hbA hS (i := (nI ((6 * t) + 2))) (vp_in_nI (by omega) (by omega)) d_La_law_321 ?_
            refine aw_ti (y := nI k) (by rw [nI_clamp (by omega)]; exact hk0.symm) ?_
            refine lv_aload_n hx hb d_La_law_322 rfl (lv_at hl 1 rfl) ?_
            refine lv_iload hx hb d_La_law_323 (lv_at hl 5 rfl) ?_
            refine lv_iconst (v := nI 3) hx hb d_La_law_325 (by decide +kernel) ?_
            refine lv_iadd hx hb d_La_law_326 ?_
            refine aw_ti (nI_add (6 * t) 3) ?_
            refine va_sld hx hb hX hbl hbA hS (i := (nI ((6 * t) + 3))) (vp_in_nI (by omega) (by omega)) d_La_law_327 ?_
            refine lv_topi (fun x150 _ => ?_)
            refine lv_i2l hx hb d_La_law_328 rfl ?_
            refine lv_topl (fun y151 _ => ?_)
            refine lv_bipush (v := nI 32) hx hb d_La_law_329 (by decide +kernel) ?_
            refine lv_lshl hx hb d_La_law_331 rfl ?_
            refine lv_topl (fun y152 _ => ?_)
            refine lv_aload_n hx hb d_La_law_332 rfl (lv_at hl 1 rfl) ?_
            refine lv_iload hx hb d_La_law_333 (lv_at hl 5 rfl) ?_
            refine lv_iconst (v := nI 4) hx hb d_La_law_335 (by decide +kernel) ?_
            refine lv_iadd hx hb d_La_law_336 ?_
            refine aw_ti (nI_add (6 * t) 4) ?_
            refine va_sld hx hb hX hbl hbA hS (i := (nI ((6 * t) + 4))) (vp_in_nI (by omega) (by omega)) d_La_law_337 ?_
            refine lv_topi (fun x153 _ => ?_)
            refine lv_i2l hx hb d_La_law_338 rfl ?_
            refine lv_topl (fun y154 _ => ?_)
            refine lv_ldc2 (v := 4294967295) hx hb hown (hG _ gw_13_3) d_La_law_339 ?_
            refine lv_land hx hb d_La_law_342 ?_
            refine lv_topl (fun y155 _ => ?_)
            refine lv_lor hx hb d_La_law_343 ?_
            refine lv_topl (fun y156 _ => ?_)
            obtain ⟨_, _, _, he157⟩ := rd_M0 hSh
            refine va_callv (va_runV (As := [.int (nI j), .int (nI k), .long y156]) (rest := []) ⟨hx, hb, hml, hown, hG⟩ (k_Mo_mode1 l D g ad (aw_g1 (aw_g2 G j k) j 3) G F N0 j k y156 hj (by omega) (by omega)) (aw_wV 3 hG gw_10_45 gw_10_42 gw_0_10 gw_10_43 gw_10_44 rfl rfl hd_Mo_mode ⟨Nat.le_of_ble_eq_true rfl, Nat.le_of_ble_eq_true rfl⟩) (aw_qV (va_recv hK hP rfl he157) hP hD hSh hU hS) rfl rfl hl.1 rfl (lv_room (Nat.le_of_ble_eq_true rfl)) d_La_law_344 ⟨by omega, by omega⟩) hS (fun _ _ h => h) (fun _ h => h) (fun u8 t8 H locs ht _ _ hB _ _ hS => ?_)
            obtain ⟨L, hP, hD, hSh⟩ := hB
            rw [ht] at hP
            clear ht
            refine lv_goto (tgt := 837) hx hb d_La_law_347 (by decide) ?_
            refine lv_iinc (k := 5) (v := nI (6 * t + 6)) hx hb d_La_law_837 hl rfl (aw_inc (6 * t) 6 6 (by decide +kernel)) (by decide) rfl (fun ls hl => ?_)
            have hl : lv_has ls 8 [(4, .int (nI (6 * t + 6))), (5, .int (nI 0)), (0, .ref b), (1, .ref (aw_r ad 0)), (2, .ref (aw_m ad 0)), (3, .ref (aw_o ad))] := hl
            refine lv_goto (tgt := 23) hx hb d_La_law_840 (by decide) ?_
            rw [aw_g12] at hSh
            have hl := lv_sub hl (l' := [(0, .ref b), (1, .ref (aw_r ad 0)), (2, .ref (aw_m ad 0)), (3, .ref (aw_o ad)), (4, .int (nI (6 * t + 6)))]) [2, 3, 4, 5, 0] rfl
            refine W.widen (k := 85 + (t + 1)) (n := 1246 + 6 * (t + 1)) (by omega) (by omega) ?_
            exact ih (t + 1) (aw_g2 (aw_g1 G j 3) j k) (nI 0) _ _ L ls (by omega) hP hD hSh hS (by first | exact hl | simpa [Nat.mul_add] using hl)
          · refine lv_aload_n hx hb d_La_law_269 rfl (lv_at hl 1 rfl) ?_
            refine lv_aload_n hx hb d_La_law_270 rfl (lv_at hl 0 rfl) ?_
            refine lv_iload hx hb d_La_law_271 (lv_at hl 4 rfl) ?_
            refine lv_iconst (v := nI 1) hx hb d_La_law_273 (by decide +kernel) ?_
            refine lv_iadd hx hb d_La_law_274 ?_
            refine aw_ti (nI_add (6 * t) 1) ?_
            refine va_sld hx hb hX hbl hbA hS (i := (nI ((6 * t) + 1))) (vp_in_nI (by omega) (by omega)) d_La_law_275 ?_
            refine aw_ti (y := nI j) (by rw [nI_clamp (by omega)]; exact hc0.symm) ?_
            refine lv_aload_n hx hb d_La_law_276 rfl (lv_at hl 0 rfl) ?_
            refine lv_iload hx hb d_La_law_277 (lv_at hl 4 rfl) ?_
            refine lv_iconst (v := nI 2) hx hb d_La_law_279 (by decide +kernel) ?_
            refine lv_iadd hx hb d_La_law_280 ?_
            refine aw_ti (nI_add (6 * t) 2) ?_
            refine va_sld hx hb hX hbl hbA hS (i := (nI ((6 * t) + 2))) (vp_in_nI (by omega) (by omega)) d_La_law_281 ?_
            refine aw_ti (y := nI k) (by rw [nI_clamp (by omega)]; exact hk0.symm) ?_
            refine lv_aload_n hx hb d_La_law_282 rfl (lv_at hl 0 rfl) ?_
            refine lv_iload hx hb d_La_law_283 (lv_at hl 4 rfl) ?_
            refine lv_iconst (v := nI 3) hx hb d_La_law_285 (by decide +kernel) ?_
            refine lv_iadd hx hb d_La_law_286 ?_
            refine aw_ti (nI_add (6 * t) 3) ?_
            refine va_sld hx hb hX hbl hbA hS (i := (nI ((6 * t) + 3))) (vp_in_nI (by omega) (by omega)) d_La_law_287 ?_
            refine lv_topi (fun x158 _ => ?_)
            refine lv_i2l hx hb d_La_law_288 rfl ?_
            refine lv_topl (fun y159 _ => ?_)
            refine lv_bipush (v := nI 32) hx hb d_La_law_289 (by decide +kernel) ?_
            refine lv_lshl hx hb d_La_law_291 rfl ?_
            refine lv_topl (fun y160 _ => ?_)
            refine lv_aload_n hx hb d_La_law_292 rfl (lv_at hl 0 rfl) ?_
            refine lv_iload hx hb d_La_law_293 (lv_at hl 4 rfl) ?_
            refine lv_iconst (v := nI 4) hx hb d_La_law_295 (by decide +kernel) ?_
            refine lv_iadd hx hb d_La_law_296 ?_
            refine aw_ti (nI_add (6 * t) 4) ?_
            refine va_sld hx hb hX hbl hbA hS (i := (nI ((6 * t) + 4))) (vp_in_nI (by omega) (by omega)) d_La_law_297 ?_
            refine lv_topi (fun x161 _ => ?_)
            refine lv_i2l hx hb d_La_law_298 rfl ?_
            refine lv_topl (fun y162 _ => ?_)
            refine lv_ldc2 (v := 4294967295) hx hb hown (hG _ gw_13_3) d_La_law_299 ?_
            refine lv_land hx hb d_La_law_302 ?_
            refine lv_topl (fun y163 _ => ?_)
            refine lv_lor hx hb d_La_law_303 ?_
            refine lv_topl (fun y164 _ => ?_)
            refine va_calli (vx_runSW (As := [.ref (aw_r ad 0), .int (nI j), .int (nI k), .long y164]) (rest := []) ⟨hx, hb, hml, hown, hG⟩ (k_La_modeXs l hst D g ad G G F N0 j k y164 hj (by omega) (by omega)) (aw_wW 4 hG gw_5_23 gw_5_21 gw_0_0 gw_5_22 rfl rfl hd_La_mode ⟨Nat.le_of_ble_eq_true rfl, Nat.le_of_ble_eq_true rfl⟩) (aw_qS hP hD hSh hU hS) rfl rfl hl.1 rfl (lv_room (Nat.le_of_ble_eq_true rfl)) d_La_law_304 ⟨by omega, by omega⟩) hS (fun _ _ h => h) (fun _ h => h) (fun x165 u8 t8 H locs ht _ hpx165 hB _ _ hS => ?_)
            obtain ⟨L, hP, hD, hSh⟩ := hB
            rw [ht] at hP
            clear ht
            subst hpx165
            refine lv_istore hx hb d_La_law_307 hl (by decide) rfl (fun ls hl => ?_)
            have hl : lv_has ls 8 [(5, .int (nI 3)), (0, .ref b), (1, .ref (aw_r ad 0)), (2, .ref (aw_m ad 0)), (3, .ref (aw_o ad)), (4, .int (nI (6 * t)))] := hl
            refine lv_aload_n hx hb d_La_law_309 rfl (lv_at hl 3 rfl) ?_
            refine lv_aload_n hx hb d_La_law_310 rfl (lv_at hl 1 rfl) ?_
            refine lv_iload hx hb d_La_law_311 (lv_at hl 5 rfl) ?_
            refine lv_iconst (v := nI 1) hx hb d_La_law_313 (by decide +kernel) ?_
            refine lv_iadd hx hb d_La_law_314 ?_
            refine aw_ti (nI_add (6 * t) 1) ?_
            refine va_sld hx hb hX hbl hbA hS (i := (nI ((6 * t) + 1))) (vp_in_nI (by omega) (by omega)) d_La_law_315 ?_
            refine aw_ti (y := nI j) (by rw [nI_clamp (by omega)]; exact hc0.symm) ?_
            refine lv_aload_n hx hb d_La_law_316 rfl (lv_at hl 1 rfl) ?_
            refine lv_iload hx hb d_La_law_317 (lv_at hl 5 rfl) ?_
            refine lv_iconst (v := nI 2) hx hb d_La_law_319 (by decide +kernel) ?_
            refine lv_iadd hx hb d_La_law_320 ?_
            refine aw_ti (nI_add (6 * t) 2) ?_
            refine va_sld hx hb hX hbl hbA hS (i := (nI ((6 * t) + 2))) (vp_in_nI (by omega) (by omega)) d_La_law_321 ?_
            refine aw_ti (y := nI k) (by rw [nI_clamp (by omega)]; exact hk0.symm) ?_
            refine lv_aload_n hx hb d_La_law_322 rfl (lv_at hl 1 rfl) ?_
            refine lv_iload hx hb d_La_law_323 (lv_at hl 5 rfl) ?_
            refine lv_iconst (v := nI 3) hx hb d_La_law_325 (by decide +kernel) ?_
            refine lv_iadd hx hb d_La_law_326 ?_
            refine aw_ti (nI_add (6 * t) 3) ?_
            refine va_sld hx hb hX hbl hbA hS (i := (nI ((6 * t) + 3))) (vp_in_nI (by omega) (by omega)) d_La_law_327 ?_
            refine lv_topi (fun x166 _ => ?_)
            refine lv_i2l hx hb d_La_law_328 rfl ?_
            refine lv_topl (fun y167 _ => ?_)
            refine lv_bipush (v := nI 32) hx hb d_La_law_329 (by decide +kernel) ?_
            refine lv_lshl hx hb d_La_law_331 rfl ?_
            refine lv_topl (fun y168 _ => ?_)
            refine lv_aload_n hx hb d_La_law_332 rfl (lv_at hl 1 rfl) ?_
            refine lv_iload hx hb d_La_law_333 (lv_at hl 5 rfl) ?_
            refine lv_iconst (v := nI 4) hx hb d_La_law_335 (by decide +kernel) ?_
            refine lv_iadd hx hb d_La_law_336 ?_
            refine aw_ti (nI_add (6 * t) 4) ?_
            refine va_sld hx hb hX hbl hbA hS (i := (nI ((6 * t) + 4))) (vp_in_nI (by omega) (by omega)) d_La_law_337 ?_
            refine lv_topi (fun x169 _ => ?_)
            refine lv_i2l hx hb d_La_law_338 rfl ?_
            refine lv_topl (fun y170 _ => ?_)
            refine lv_ldc2 (v := 4294967295) hx hb hown (hG _ gw_13_3) d_La_law_339 ?_
            refine lv_land hx hb d_La_law_342 ?_
            refine lv_topl (fun y171 _ => ?_)
            refine lv_lor hx hb d_La_law_343 ?_
            refine lv_topl (fun y172 _ => ?_)
            obtain ⟨_, _, _, he173⟩ := rd_M0 hSh
            refine va_callv (va_runV (As := [.int (nI j), .int (nI k), .long y172]) (rest := []) ⟨hx, hb, hml, hown, hG⟩ (k_Mo_modeXs l D g ad G G F N0 j k y172 hj (by omega) (by omega)) (aw_wV 3 hG gw_10_45 gw_10_42 gw_0_10 gw_10_43 gw_10_44 rfl rfl hd_Mo_mode ⟨Nat.le_of_ble_eq_true rfl, Nat.le_of_ble_eq_true rfl⟩) (aw_qV (va_recv hK hP rfl he173) hP hD hSh hU hS) rfl rfl hl.1 rfl (lv_room (Nat.le_of_ble_eq_true rfl)) d_La_law_344 ⟨by omega, by omega⟩) hS (fun _ _ h => h) (fun _ h => h) (fun u8 t8 H locs ht _ _ hB _ _ hS => ?_)
            obtain ⟨L, hP, hD, hSh⟩ := hB
            rw [ht] at hP
            clear ht
            refine lv_goto (tgt := 837) hx hb d_La_law_347 (by decide) ?_
            refine lv_iinc (k := 5) (v := nI (6 * t + 6)) hx hb d_La_law_837 hl rfl (aw_inc (6 * t) 6 6 (by decide +kernel)) (by decide) rfl (fun ls hl => ?_)
            have hl : lv_has ls 8 [(4, .int (nI (6 * t + 6))), (5, .int (nI 3)), (0, .ref b), (1, .ref (aw_r ad 0)), (2, .ref (aw_m ad 0)), (3, .ref (aw_o ad))] := hl
            refine lv_goto (tgt := 23) hx hb d_La_law_840 (by decide) ?_
            have hl := lv_sub hl (l' := [(0, .ref b), (1, .ref (aw_r ad 0)), (2, .ref (aw_m ad 0)), (3, .ref (aw_o ad)), (4, .int (nI (6 * t + 6)))]) [2, 3, 4, 5, 0] rfl
            refine W.widen (k := 85 + (t + 1)) (n := 1246 + 6 * (t + 1)) (by omega) (by omega) ?_
            exact ih (t + 1) G (nI 3) _ _ L ls (by omega) hP hD hSh hS (by first | exact hl | simpa [Nat.mul_add] using hl)
    · refine aw_ti (y := nI 3) (by rw [hs3]) ?_
      refine lv_tableIn (tgt := 350) (off := 310) hx hb d_La_law_40 (by decide +kernel) (by decide +kernel) (by decide +kernel) (by decide) ?_
      obtain ⟨c0, hc0⟩ : ∃ z : Int32, z = xs (6 * t + 1) := ⟨_, rfl⟩
      rcases aw_rng 4 (by decide) c0 with hc | ⟨j, hj, rfl⟩
      · refine lv_aload_n hx hb d_La_law_350 rfl (lv_at hl 1 rfl) ?_
        refine lv_aload_n hx hb d_La_law_351 rfl (lv_at hl 0 rfl) ?_
        refine lv_iload hx hb d_La_law_352 (lv_at hl 4 rfl) ?_
        refine lv_iconst (v := nI 1) hx hb d_La_law_354 (by decide +kernel) ?_
        refine lv_iadd hx hb d_La_law_355 ?_
        refine aw_ti (nI_add (6 * t) 1) ?_
        refine va_sld hx hb hX hbl hbA hS (i := (nI ((6 * t) + 1))) (vp_in_nI (by omega) (by omega)) d_La_law_356 ?_
        refine aw_ti (y := c0) (by rw [nI_clamp (by omega)]; exact hc0.symm) ?_
        refine va_calli (vx_runSW (As := [.ref (aw_r ad 0), .int c0]) (rest := []) ⟨hx, hb, hml, hown, hG⟩ (k_La_freeXc l hst D g ad G G F N0 c0 hc) (aw_wW 2 hG gw_5_41 gw_5_39 gw_0_0 gw_5_40 rfl rfl hd_La_free ⟨Nat.le_of_ble_eq_true rfl, Nat.le_of_ble_eq_true rfl⟩) (aw_qS hP hD hSh hU hS) rfl rfl hl.1 rfl (lv_room (Nat.le_of_ble_eq_true rfl)) d_La_law_357 ⟨by omega, by omega⟩) hS (fun _ _ h => h) (fun _ h => h) (fun x174 u8 t8 H locs ht _ hpx174 hB _ _ hS => ?_)
        obtain ⟨L, hP, hD, hSh⟩ := hB
        rw [ht] at hP
        clear ht
        subst hpx174
        refine lv_istore hx hb d_La_law_360 hl (by decide) rfl (fun ls hl => ?_)
        have hl : lv_has ls 8 [(5, .int (nI 1)), (0, .ref b), (1, .ref (aw_r ad 0)), (2, .ref (aw_m ad 0)), (3, .ref (aw_o ad)), (4, .int (nI (6 * t)))] := hl
        refine lv_aload_n hx hb d_La_law_362 rfl (lv_at hl 3 rfl) ?_
        refine lv_aload_n hx hb d_La_law_363 rfl (lv_at hl 1 rfl) ?_
        refine lv_iload hx hb d_La_law_364 (lv_at hl 5 rfl) ?_
        refine lv_iconst (v := nI 1) hx hb d_La_law_366 (by decide +kernel) ?_
        refine lv_iadd hx hb d_La_law_367 ?_
        refine aw_ti (nI_add (6 * t) 1) ?_
        refine va_sld hx hb hX hbl hbA hS (i := (nI ((6 * t) + 1))) (vp_in_nI (by omega) (by omega)) d_La_law_368 ?_
        refine aw_ti (y := c0) (by rw [nI_clamp (by omega)]; exact hc0.symm) ?_
        obtain ⟨_, _, _, he175⟩ := rd_M0 hSh
        refine va_callv (va_runV (As := [.int c0]) (rest := []) ⟨hx, hb, hml, hown, hG⟩ (k_Mo_freeXc l D g ad G G F N0 c0 hc) (aw_wV 1 hG gw_10_55 gw_10_52 gw_0_10 gw_10_53 gw_10_54 rfl rfl hd_Mo_free ⟨Nat.le_of_ble_eq_true rfl, Nat.le_of_ble_eq_true rfl⟩) (aw_qV (va_recv hK hP rfl he175) hP hD hSh hU hS) rfl rfl hl.1 rfl (lv_room (Nat.le_of_ble_eq_true rfl)) d_La_law_369 ⟨by omega, by omega⟩) hS (fun _ _ h => h) (fun _ h => h) (fun u8 t8 H locs ht _ _ hB _ _ hS => ?_)
        obtain ⟨L, hP, hD, hSh⟩ := hB
        rw [ht] at hP
        clear ht
        refine lv_goto (tgt := 837) hx hb d_La_law_372 (by decide) ?_
        refine lv_iinc (k := 5) (v := nI (6 * t + 6)) hx hb d_La_law_837 hl rfl (aw_inc (6 * t) 6 6 (by decide +kernel)) (by decide) rfl (fun ls hl => ?_)
        have hl : lv_has ls 8 [(4, .int (nI (6 * t + 6))), (5, .int (nI 1)), (0, .ref b), (1, .ref (aw_r ad 0)), (2, .ref (aw_m ad 0)), (3, .ref (aw_o ad))] := hl
        refine lv_goto (tgt := 23) hx hb d_La_law_840 (by decide) ?_
        have hl := lv_sub hl (l' := [(0, .ref b), (1, .ref (aw_r ad 0)), (2, .ref (aw_m ad 0)), (3, .ref (aw_o ad)), (4, .int (nI (6 * t + 6)))]) [2, 3, 4, 5, 0] rfl
        refine W.widen (k := 85 + (t + 1)) (n := 1246 + 6 * (t + 1)) (by omega) (by omega) ?_
        exact ih (t + 1) G (nI 1) _ _ L ls (by omega) hP hD hSh hS (by first | exact hl | simpa [Nat.mul_add] using hl)
      · have hgj := hSh.2.2.2.2.1 j hj
        refine lv_aload_n hx hb d_La_law_350 rfl (lv_at hl 1 rfl) ?_
        refine lv_aload_n hx hb d_La_law_351 rfl (lv_at hl 0 rfl) ?_
        refine lv_iload hx hb d_La_law_352 (lv_at hl 4 rfl) ?_
        refine lv_iconst (v := nI 1) hx hb d_La_law_354 (by decide +kernel) ?_
        refine lv_iadd hx hb d_La_law_355 ?_
        refine aw_ti (nI_add (6 * t) 1) ?_
        refine va_sld hx hb hX hbl hbA hS (i := (nI ((6 * t) + 1))) (vp_in_nI (by omega) (by omega)) d_La_law_356 ?_
        refine aw_ti (y := nI j) (by rw [nI_clamp (by omega)]; exact hc0.symm) ?_
        refine va_calli (vx_runSW (As := [.ref (aw_r ad 0), .int (nI j)]) (rest := []) ⟨hx, hb, hml, hown, hG⟩ (k_La_free1 l hst D g ad G G F N0 j hj) (aw_wW 2 hG gw_5_41 gw_5_39 gw_0_0 gw_5_40 rfl rfl hd_La_free ⟨Nat.le_of_ble_eq_true rfl, Nat.le_of_ble_eq_true rfl⟩) (aw_qS hP hD hSh hU hS) rfl rfl hl.1 rfl (lv_room (Nat.le_of_ble_eq_true rfl)) d_La_law_357 ⟨by omega, by omega⟩) hS (fun _ _ h => h) (fun _ h => h) (fun x176 u8 t8 H locs ht _ hpx176 hB _ _ hS => ?_)
        obtain ⟨L, hP, hD, hSh⟩ := hB
        rw [ht] at hP
        clear ht
        subst hpx176
        refine lv_istore hx hb d_La_law_360 hl (by decide) rfl (fun ls hl => ?_)
        have hl : lv_has ls 8 [(5, .int (nI 0)), (0, .ref b), (1, .ref (aw_r ad 0)), (2, .ref (aw_m ad 0)), (3, .ref (aw_o ad)), (4, .int (nI (6 * t)))] := hl
        refine lv_aload_n hx hb d_La_law_362 rfl (lv_at hl 3 rfl) ?_
        refine lv_aload_n hx hb d_La_law_363 rfl (lv_at hl 1 rfl) ?_
        refine lv_iload hx hb d_La_law_364 (lv_at hl 5 rfl) ?_
        refine lv_iconst (v := nI 1) hx hb d_La_law_366 (by decide +kernel) ?_
        refine lv_iadd hx hb d_La_law_367 ?_
        refine aw_ti (nI_add (6 * t) 1) ?_
        refine va_sld hx hb hX hbl hbA hS (i := (nI ((6 * t) + 1))) (vp_in_nI (by omega) (by omega)) d_La_law_368 ?_
        refine aw_ti (y := nI j) (by rw [nI_clamp (by omega)]; exact hc0.symm) ?_
        obtain ⟨_, _, _, he177⟩ := rd_M0 hSh
        refine va_callv (va_runV (As := [.int (nI j)]) (rest := []) ⟨hx, hb, hml, hown, hG⟩ (k_Mo_free1 l D g ad (aw_g1 G j 0) G F N0 j hj) (aw_wV 1 hG gw_10_55 gw_10_52 gw_0_10 gw_10_53 gw_10_54 rfl rfl hd_Mo_free ⟨Nat.le_of_ble_eq_true rfl, Nat.le_of_ble_eq_true rfl⟩) (aw_qV (va_recv hK hP rfl he177) hP hD hSh hU hS) rfl rfl hl.1 rfl (lv_room (Nat.le_of_ble_eq_true rfl)) d_La_law_369 ⟨by omega, by omega⟩) hS (fun _ _ h => h) (fun _ h => h) (fun u8 t8 H locs ht _ _ hB _ _ hS => ?_)
        obtain ⟨L, hP, hD, hSh⟩ := hB
        rw [ht] at hP
        clear ht
        refine lv_goto (tgt := 837) hx hb d_La_law_372 (by decide) ?_
        refine lv_iinc (k := 5) (v := nI (6 * t + 6)) hx hb d_La_law_837 hl rfl (aw_inc (6 * t) 6 6 (by decide +kernel)) (by decide) rfl (fun ls hl => ?_)
        have hl : lv_has ls 8 [(4, .int (nI (6 * t + 6))), (5, .int (nI 0)), (0, .ref b), (1, .ref (aw_r ad 0)), (2, .ref (aw_m ad 0)), (3, .ref (aw_o ad))] := hl
        refine lv_goto (tgt := 23) hx hb d_La_law_840 (by decide) ?_
        have hl := lv_sub hl (l' := [(0, .ref b), (1, .ref (aw_r ad 0)), (2, .ref (aw_m ad 0)), (3, .ref (aw_o ad)), (4, .int (nI (6 * t + 6)))]) [2, 3, 4, 5, 0] rfl
        refine W.widen (k := 85 + (t + 1)) (n := 1246 + 6 * (t + 1)) (by omega) (by omega) ?_
        exact ih (t + 1) (aw_g1 G j 0) (nI 0) _ _ L ls (by omega) hP hD hSh hS (by first | exact hl | simpa [Nat.mul_add] using hl)
    · refine aw_ti (y := nI 4) (by rw [hs3]) ?_
      refine lv_tableIn (tgt := 375) (off := 335) hx hb d_La_law_40 (by decide +kernel) (by decide +kernel) (by decide +kernel) (by decide) ?_
      obtain ⟨c0, hc0⟩ : ∃ z : Int32, z = xs (6 * t + 1) := ⟨_, rfl⟩
      rcases aw_rng 4 (by decide) c0 with hc | ⟨j, hj, rfl⟩
      · refine lv_aload_n hx hb d_La_law_375 rfl (lv_at hl 1 rfl) ?_
        refine lv_aload_n hx hb d_La_law_376 rfl (lv_at hl 0 rfl) ?_
        refine lv_iload hx hb d_La_law_377 (lv_at hl 4 rfl) ?_
        refine lv_iconst (v := nI 1) hx hb d_La_law_379 (by decide +kernel) ?_
        refine lv_iadd hx hb d_La_law_380 ?_
        refine aw_ti (nI_add (6 * t) 1) ?_
        refine va_sld hx hb hX hbl hbA hS (i := (nI ((6 * t) + 1))) (vp_in_nI (by omega) (by omega)) d_La_law_381 ?_
        refine aw_ti (y := c0) (by rw [nI_clamp (by omega)]; exact hc0.symm) ?_
        refine lv_aload_n hx hb d_La_law_382 rfl (lv_at hl 3 rfl) ?_
        refine va_calli (vx_runSW (As := [.ref (aw_r ad 0), .int c0, .ref (aw_o ad)]) (rest := []) ⟨hx, hb, hml, hown, hG⟩ (k_La_stageXc l hst D g ad G G F N0 c0 hc) (aw_wW 3 hG gw_5_48 gw_5_46 gw_0_0 gw_5_47 rfl rfl hd_La_stage ⟨Nat.le_of_ble_eq_true rfl, Nat.le_of_ble_eq_true rfl⟩) (aw_qS hP hD hSh hU hS) rfl rfl hl.1 rfl (lv_room (Nat.le_of_ble_eq_true rfl)) d_La_law_383 ⟨by omega, by omega⟩) hS (fun _ _ h => h) (fun _ h => h) (fun x178 u8 t8 H locs ht _ hpx178 hB _ _ hS => ?_)
        obtain ⟨L, hP, hD, hSh⟩ := hB
        rw [ht] at hP
        clear ht
        subst hpx178
        refine lv_istore hx hb d_La_law_386 hl (by decide) rfl (fun ls hl => ?_)
        have hl : lv_has ls 8 [(5, .int (nI 1)), (0, .ref b), (1, .ref (aw_r ad 0)), (2, .ref (aw_m ad 0)), (3, .ref (aw_o ad)), (4, .int (nI (6 * t)))] := hl
        refine lv_aload_n hx hb d_La_law_388 rfl (lv_at hl 3 rfl) ?_
        refine lv_aload_n hx hb d_La_law_389 rfl (lv_at hl 1 rfl) ?_
        refine lv_iload hx hb d_La_law_390 (lv_at hl 5 rfl) ?_
        refine lv_iconst (v := nI 1) hx hb d_La_law_392 (by decide +kernel) ?_
        refine lv_iadd hx hb d_La_law_393 ?_
        refine aw_ti (nI_add (6 * t) 1) ?_
        refine va_sld hx hb hX hbl hbA hS (i := (nI ((6 * t) + 1))) (vp_in_nI (by omega) (by omega)) d_La_law_394 ?_
        refine aw_ti (y := c0) (by rw [nI_clamp (by omega)]; exact hc0.symm) ?_
        obtain ⟨_, _, _, he179⟩ := rd_M0 hSh
        refine va_calli (va_runV (As := [.int c0]) (rest := []) ⟨hx, hb, hml, hown, hG⟩ (k_Mo_stageXc l D g ad G G F N0 c0 hc) (aw_wV 1 hG gw_10_59 gw_10_56 gw_0_10 gw_10_57 gw_10_58 rfl rfl hd_Mo_stage ⟨Nat.le_of_ble_eq_true rfl, Nat.le_of_ble_eq_true rfl⟩) (aw_qV (va_recv hK hP rfl he179) hP hD hSh hU hS) rfl rfl hl.1 rfl (lv_room (Nat.le_of_ble_eq_true rfl)) d_La_law_395 ⟨by omega, by omega⟩) hS (fun _ _ h => h) (fun _ h => h) (fun x180 u8 t8 H locs ht _ _ hB _ _ hS => ?_)
        obtain ⟨L, hP, hD, hSh⟩ := hB
        rw [ht] at hP
        clear ht
        refine lv_istore hx hb d_La_law_398 hl (by decide) rfl (fun ls hl => ?_)
        have hl : lv_has ls 8 [(6, .int x180), (5, .int (nI 1)), (0, .ref b), (1, .ref (aw_r ad 0)), (2, .ref (aw_m ad 0)), (3, .ref (aw_o ad)), (4, .int (nI (6 * t)))] := hl
        refine lv_goto (tgt := 837) hx hb d_La_law_400 (by decide) ?_
        refine lv_iinc (k := 6) (v := nI (6 * t + 6)) hx hb d_La_law_837 hl rfl (aw_inc (6 * t) 6 6 (by decide +kernel)) (by decide) rfl (fun ls hl => ?_)
        have hl : lv_has ls 8 [(4, .int (nI (6 * t + 6))), (6, .int x180), (5, .int (nI 1)), (0, .ref b), (1, .ref (aw_r ad 0)), (2, .ref (aw_m ad 0)), (3, .ref (aw_o ad))] := hl
        refine lv_goto (tgt := 23) hx hb d_La_law_840 (by decide) ?_
        have hl := lv_sub hl (l' := [(0, .ref b), (1, .ref (aw_r ad 0)), (2, .ref (aw_m ad 0)), (3, .ref (aw_o ad)), (4, .int (nI (6 * t + 6)))]) [3, 4, 5, 6, 0] rfl
        refine W.widen (k := 85 + (t + 1)) (n := 1246 + 6 * (t + 1)) (by omega) (by omega) ?_
        exact ih (t + 1) G (nI 1) _ _ L ls (by omega) hP hD hSh hS (by first | exact hl | simpa [Nat.mul_add] using hl)
      · have hgj := hSh.2.2.2.2.1 j hj
        refine lv_aload_n hx hb d_La_law_375 rfl (lv_at hl 1 rfl) ?_
        refine lv_aload_n hx hb d_La_law_376 rfl (lv_at hl 0 rfl) ?_
        refine lv_iload hx hb d_La_law_377 (lv_at hl 4 rfl) ?_
        refine lv_iconst (v := nI 1) hx hb d_La_law_379 (by decide +kernel) ?_
        refine lv_iadd hx hb d_La_law_380 ?_
        refine aw_ti (nI_add (6 * t) 1) ?_
        refine va_sld hx hb hX hbl hbA hS (i := (nI ((6 * t) + 1))) (vp_in_nI (by omega) (by omega)) d_La_law_381 ?_
        refine aw_ti (y := nI j) (by rw [nI_clamp (by omega)]; exact hc0.symm) ?_
        refine lv_aload_n hx hb d_La_law_382 rfl (lv_at hl 3 rfl) ?_
        refine va_calli (vx_runSW (As := [.ref (aw_r ad 0), .int (nI j), .ref (aw_o ad)]) (rest := []) ⟨hx, hb, hml, hown, hG⟩ (k_La_stage1 l hst D g ad G G F N0 j hj) (aw_wW 3 hG gw_5_48 gw_5_46 gw_0_0 gw_5_47 rfl rfl hd_La_stage ⟨Nat.le_of_ble_eq_true rfl, Nat.le_of_ble_eq_true rfl⟩) (aw_qS hP hD hSh hU hS) rfl rfl hl.1 rfl (lv_room (Nat.le_of_ble_eq_true rfl)) d_La_law_383 ⟨by omega, by omega⟩) hS (fun _ _ h => h) (fun _ h => h) (fun x181 u8 t8 H locs ht _ hpx181 hB _ _ hS => ?_)
        obtain ⟨L, hP, hD, hSh⟩ := hB
        rw [ht] at hP
        clear ht
        subst hpx181
        refine lv_istore hx hb d_La_law_386 hl (by decide) rfl (fun ls hl => ?_)
        have hl : lv_has ls 8 [(5, .int (nI 0)), (0, .ref b), (1, .ref (aw_r ad 0)), (2, .ref (aw_m ad 0)), (3, .ref (aw_o ad)), (4, .int (nI (6 * t)))] := hl
        refine lv_aload_n hx hb d_La_law_388 rfl (lv_at hl 3 rfl) ?_
        refine lv_aload_n hx hb d_La_law_389 rfl (lv_at hl 1 rfl) ?_
        refine lv_iload hx hb d_La_law_390 (lv_at hl 5 rfl) ?_
        refine lv_iconst (v := nI 1) hx hb d_La_law_392 (by decide +kernel) ?_
        refine lv_iadd hx hb d_La_law_393 ?_
        refine aw_ti (nI_add (6 * t) 1) ?_
        refine va_sld hx hb hX hbl hbA hS (i := (nI ((6 * t) + 1))) (vp_in_nI (by omega) (by omega)) d_La_law_394 ?_
        refine aw_ti (y := nI j) (by rw [nI_clamp (by omega)]; exact hc0.symm) ?_
        obtain ⟨_, _, _, he182⟩ := rd_M0 hSh
        refine va_calli (va_runV (As := [.int (nI j)]) (rest := []) ⟨hx, hb, hml, hown, hG⟩ (k_Mo_stage1 l D g ad G G F N0 j hj) (aw_wV 1 hG gw_10_59 gw_10_56 gw_0_10 gw_10_57 gw_10_58 rfl rfl hd_Mo_stage ⟨Nat.le_of_ble_eq_true rfl, Nat.le_of_ble_eq_true rfl⟩) (aw_qV (va_recv hK hP rfl he182) hP hD hSh hU hS) rfl rfl hl.1 rfl (lv_room (Nat.le_of_ble_eq_true rfl)) d_La_law_395 ⟨by omega, by omega⟩) hS (fun _ _ h => h) (fun _ h => h) (fun x183 u8 t8 H locs ht _ hpx183 hB _ _ hS => ?_)
        obtain ⟨L, hP, hD, hSh⟩ := hB
        rw [ht] at hP
        clear ht
        subst hpx183
        refine lv_istore hx hb d_La_law_398 hl (by decide) rfl (fun ls hl => ?_)
        have hl : lv_has ls 8 [(6, .int (nI ((G j).1))), (5, .int (nI 0)), (0, .ref b), (1, .ref (aw_r ad 0)), (2, .ref (aw_m ad 0)), (3, .ref (aw_o ad)), (4, .int (nI (6 * t)))] := hl
        refine lv_goto (tgt := 837) hx hb d_La_law_400 (by decide) ?_
        refine lv_iinc (k := 6) (v := nI (6 * t + 6)) hx hb d_La_law_837 hl rfl (aw_inc (6 * t) 6 6 (by decide +kernel)) (by decide) rfl (fun ls hl => ?_)
        have hl : lv_has ls 8 [(4, .int (nI (6 * t + 6))), (6, .int (nI ((G j).1))), (5, .int (nI 0)), (0, .ref b), (1, .ref (aw_r ad 0)), (2, .ref (aw_m ad 0)), (3, .ref (aw_o ad))] := hl
        refine lv_goto (tgt := 23) hx hb d_La_law_840 (by decide) ?_
        have hl := lv_sub hl (l' := [(0, .ref b), (1, .ref (aw_r ad 0)), (2, .ref (aw_m ad 0)), (3, .ref (aw_o ad)), (4, .int (nI (6 * t + 6)))]) [3, 4, 5, 6, 0] rfl
        refine W.widen (k := 85 + (t + 1)) (n := 1246 + 6 * (t + 1)) (by omega) (by omega) ?_
        exact ih (t + 1) G (nI 0) _ _ L ls (by omega) hP hD hSh hS (by first | exact hl | simpa [Nat.mul_add] using hl)
    · refine aw_ti (y := nI 5) (by rw [hs3]) ?_
      refine lv_tableIn (tgt := 403) (off := 363) hx hb d_La_law_40 (by decide +kernel) (by decide +kernel) (by decide +kernel) (by decide) ?_
      refine lv_aload_n hx hb d_La_law_403 rfl (lv_at hl 1 rfl) ?_
      refine lv_aload_n hx hb d_La_law_404 rfl (lv_at hl 0 rfl) ?_
      refine lv_iload hx hb d_La_law_405 (lv_at hl 4 rfl) ?_
      refine lv_iconst (v := nI 1) hx hb d_La_law_407 (by decide +kernel) ?_
      refine lv_iadd hx hb d_La_law_408 ?_
      refine aw_ti (nI_add (6 * t) 1) ?_
      refine va_sld hx hb hX hbl hbA hS (i := (nI ((6 * t) + 1))) (vp_in_nI (by omega) (by omega)) d_La_law_409 ?_
      refine lv_topi (fun x184 _ => ?_)
      refine lv_aload_n hx hb d_La_law_410 rfl (lv_at hl 0 rfl) ?_
      refine lv_iload hx hb d_La_law_411 (lv_at hl 4 rfl) ?_
      refine lv_iconst (v := nI 2) hx hb d_La_law_413 (by decide +kernel) ?_
      refine lv_iadd hx hb d_La_law_414 ?_
      refine aw_ti (nI_add (6 * t) 2) ?_
      refine va_sld hx hb hX hbl hbA hS (i := (nI ((6 * t) + 2))) (vp_in_nI (by omega) (by omega)) d_La_law_415 ?_
      refine lv_topi (fun x185 _ => ?_)
      have hj186 : ∀ x187 : Int32, W p l e room_1 s m #[Value.ref b] below meth c H locs (85 + t) (1246 + 6 * t) (lw_Z below #[Value.ref b] s) (F0 m 424 ls [.int x187, .int x184, .ref (aw_r ad 0)]) := by
        intro x187
        refine lv_aload_n hx hb d_La_law_424 rfl (lv_at hl 0 rfl) ?_
        refine lv_iload hx hb d_La_law_425 (lv_at hl 4 rfl) ?_
        refine lv_iconst (v := nI 3) hx hb d_La_law_427 (by decide +kernel) ?_
        refine lv_iadd hx hb d_La_law_428 ?_
        refine aw_ti (nI_add (6 * t) 3) ?_
        refine va_sld hx hb hX hbl hbA hS (i := (nI ((6 * t) + 3))) (vp_in_nI (by omega) (by omega)) d_La_law_429 ?_
        refine lv_topi (fun x188 _ => ?_)
        refine lv_i2l hx hb d_La_law_430 rfl ?_
        refine lv_topl (fun y189 _ => ?_)
        refine lv_bipush (v := nI 32) hx hb d_La_law_431 (by decide +kernel) ?_
        refine lv_lshl hx hb d_La_law_433 rfl ?_
        refine lv_topl (fun y190 _ => ?_)
        refine lv_aload_n hx hb d_La_law_434 rfl (lv_at hl 0 rfl) ?_
        refine lv_iload hx hb d_La_law_435 (lv_at hl 4 rfl) ?_
        refine lv_iconst (v := nI 4) hx hb d_La_law_437 (by decide +kernel) ?_
        refine lv_iadd hx hb d_La_law_438 ?_
        refine aw_ti (nI_add (6 * t) 4) ?_
        refine va_sld hx hb hX hbl hbA hS (i := (nI ((6 * t) + 4))) (vp_in_nI (by omega) (by omega)) d_La_law_439 ?_
        refine lv_topi (fun x191 _ => ?_)
        refine lv_i2l hx hb d_La_law_440 rfl ?_
        refine lv_topl (fun y192 _ => ?_)
        refine lv_ldc2 (v := 4294967295) hx hb hown (hG _ gw_13_3) d_La_law_441 ?_
        refine lv_land hx hb d_La_law_444 ?_
        refine lv_topl (fun y193 _ => ?_)
        refine lv_lor hx hb d_La_law_445 ?_
        refine lv_topl (fun y194 _ => ?_)
        refine lv_aload_n hx hb d_La_law_446 rfl (lv_at hl 3 rfl) ?_
        refine va_calli (vx_runSW (As := [.ref (aw_r ad 0), .int x184, .int x187, .long y194, .ref (aw_o ad)]) (rest := []) ⟨hx, hb, hml, hown, hG⟩ (k_La_blockJ l hst D g ad G G F N0 x184 x187 y194 hSh.2.2.2.2.1) (aw_wW 5 hG gw_5_55 gw_5_53 gw_0_0 gw_5_54 rfl rfl hd_La_block ⟨Nat.le_of_ble_eq_true rfl, Nat.le_of_ble_eq_true rfl⟩) (aw_qS hP hD hSh hU hS) rfl rfl hl.1 rfl (lv_room (Nat.le_of_ble_eq_true rfl)) d_La_law_447 ⟨by omega, by omega⟩) hS (fun _ _ h => h) (fun _ h => h) (fun x195 u8 t8 H locs ht _ _ hB _ _ hS => ?_)
        obtain ⟨L, hP, hD, hSh⟩ := hB
        rw [ht] at hP
        clear ht
        refine lv_istore hx hb d_La_law_450 hl (by decide) rfl (fun ls hl => ?_)
        have hl : lv_has ls 8 [(5, .int x195), (0, .ref b), (1, .ref (aw_r ad 0)), (2, .ref (aw_m ad 0)), (3, .ref (aw_o ad)), (4, .int (nI (6 * t)))] := hl
        refine lv_aload_n hx hb d_La_law_452 rfl (lv_at hl 3 rfl) ?_
        refine lv_aload_n hx hb d_La_law_453 rfl (lv_at hl 1 rfl) ?_
        refine lv_iload hx hb d_La_law_454 (lv_at hl 5 rfl) ?_
        refine lv_iconst (v := nI 1) hx hb d_La_law_456 (by decide +kernel) ?_
        refine lv_iadd hx hb d_La_law_457 ?_
        refine aw_ti (nI_add (6 * t) 1) ?_
        refine va_sld hx hb hX hbl hbA hS (i := (nI ((6 * t) + 1))) (vp_in_nI (by omega) (by omega)) d_La_law_458 ?_
        refine lv_topi (fun x196 _ => ?_)
        refine lv_aload_n hx hb d_La_law_459 rfl (lv_at hl 1 rfl) ?_
        refine lv_iload hx hb d_La_law_460 (lv_at hl 5 rfl) ?_
        refine lv_iconst (v := nI 2) hx hb d_La_law_462 (by decide +kernel) ?_
        refine lv_iadd hx hb d_La_law_463 ?_
        refine aw_ti (nI_add (6 * t) 2) ?_
        refine va_sld hx hb hX hbl hbA hS (i := (nI ((6 * t) + 2))) (vp_in_nI (by omega) (by omega)) d_La_law_464 ?_
        refine lv_topi (fun x197 _ => ?_)
        have hj198 : ∀ x199 : Int32, W p l e room_1 s m #[Value.ref b] below meth c H locs ((85 + t) + 1) ((1246 + 6 * t) + 6) (lw_Z below #[Value.ref b] s) (F0 m 473 ls [.int x199, .int x196, .ref (aw_m ad 0)]) := by
          intro x199
          refine lv_aload_n hx hb d_La_law_473 rfl (lv_at hl 1 rfl) ?_
          refine lv_iload hx hb d_La_law_474 (lv_at hl 5 rfl) ?_
          refine lv_iconst (v := nI 3) hx hb d_La_law_476 (by decide +kernel) ?_
          refine lv_iadd hx hb d_La_law_477 ?_
          refine aw_ti (nI_add (6 * t) 3) ?_
          refine va_sld hx hb hX hbl hbA hS (i := (nI ((6 * t) + 3))) (vp_in_nI (by omega) (by omega)) d_La_law_478 ?_
          refine lv_topi (fun x200 _ => ?_)
          refine lv_i2l hx hb d_La_law_479 rfl ?_
          refine lv_topl (fun y201 _ => ?_)
          refine lv_bipush (v := nI 32) hx hb d_La_law_480 (by decide +kernel) ?_
          refine lv_lshl hx hb d_La_law_482 rfl ?_
          refine lv_topl (fun y202 _ => ?_)
          refine lv_aload_n hx hb d_La_law_483 rfl (lv_at hl 1 rfl) ?_
          refine lv_iload hx hb d_La_law_484 (lv_at hl 5 rfl) ?_
          refine lv_iconst (v := nI 4) hx hb d_La_law_486 (by decide +kernel) ?_
          refine lv_iadd hx hb d_La_law_487 ?_
          refine aw_ti (nI_add (6 * t) 4) ?_
          refine va_sld hx hb hX hbl hbA hS (i := (nI ((6 * t) + 4))) (vp_in_nI (by omega) (by omega)) d_La_law_488 ?_
          refine lv_topi (fun x203 _ => ?_)
          refine lv_i2l hx hb d_La_law_489 rfl ?_
          refine lv_topl (fun y204 _ => ?_)
          refine lv_ldc2 (v := 4294967295) hx hb hown (hG _ gw_13_3) d_La_law_490 ?_
          refine lv_land hx hb d_La_law_493 ?_
          refine lv_topl (fun y205 _ => ?_)
          refine lv_lor hx hb d_La_law_494 ?_
          refine lv_topl (fun y206 _ => ?_)
          obtain ⟨_, _, _, he207⟩ := rd_M0 hSh
          refine va_calll (va_runV (As := [.int x196, .int x199, .long y206]) (rest := []) ⟨hx, hb, hml, hown, hG⟩ (k_Mo_blockJ l D g ad G G F N0 x196 x199 y206 hSh.2.2.2.2.2) (aw_wV 3 hG gw_11_3 gw_11_0 gw_0_10 gw_11_1 gw_11_2 rfl rfl hd_Mo_block ⟨Nat.le_of_ble_eq_true rfl, Nat.le_of_ble_eq_true rfl⟩) (aw_qV (va_recv hK hP rfl he207) hP hD hSh hU hS) rfl rfl hl.1 rfl (lv_room (Nat.le_of_ble_eq_true rfl)) d_La_law_495 ⟨by omega, by omega⟩) hS (fun _ _ h => h) (fun _ h => h) (fun y208 u8 t8 H locs ht _ _ hB _ _ hS => ?_)
          obtain ⟨F209, L, hP, hD, hSh⟩ := hB
          rw [ht] at hP
          clear ht
          refine lv_lstore hx hb d_La_law_498 hl (by decide) rfl (fun ls hl => ?_)
          have hl : lv_has ls 8 [(6, .long y208), (5, .int x195), (0, .ref b), (1, .ref (aw_r ad 0)), (2, .ref (aw_m ad 0)), (3, .ref (aw_o ad)), (4, .int (nI (6 * t)))] := hl
          refine lv_goto (tgt := 837) hx hb d_La_law_500 (by decide) ?_
          refine lv_iinc (k := 6) (v := nI (6 * t + 6)) hx hb d_La_law_837 hl rfl (aw_inc (6 * t) 6 6 (by decide +kernel)) (by decide) rfl (fun ls hl => ?_)
          have hl : lv_has ls 8 [(4, .int (nI (6 * t + 6))), (6, .long y208), (5, .int x195), (0, .ref b), (1, .ref (aw_r ad 0)), (2, .ref (aw_m ad 0)), (3, .ref (aw_o ad))] := hl
          refine lv_goto (tgt := 23) hx hb d_La_law_840 (by decide) ?_
          have hl := lv_sub hl (l' := [(0, .ref b), (1, .ref (aw_r ad 0)), (2, .ref (aw_m ad 0)), (3, .ref (aw_o ad)), (4, .int (nI (6 * t + 6)))]) [3, 4, 5, 6, 0] rfl
          refine W.widen (k := 85 + (t + 1)) (n := 1246 + 6 * (t + 1)) (by omega) (by omega) ?_
          exact ih (t + 1) G F209 _ _ L ls (by omega) hP hD hSh hS (by first | exact hl | simpa [Nat.mul_add] using hl)
        refine lv_if_eq (tgt := 472) hx hb d_La_law_465 (by decide) (fun _ => ?_) (fun _ => ?_)
        · refine lv_iconst (v := nI 0) hx hb d_La_law_472 (by decide +kernel) ?_
          exact hj198 _
        · refine lv_iconst (v := nI 1) hx hb d_La_law_468 (by decide +kernel) ?_
          refine lv_goto (tgt := 473) hx hb d_La_law_469 (by decide) ?_
          exact hj198 _
      refine lv_if_eq (tgt := 423) hx hb d_La_law_416 (by decide) (fun _ => ?_) (fun _ => ?_)
      · refine lv_iconst (v := nI 0) hx hb d_La_law_423 (by decide +kernel) ?_
        exact hj186 _
      · refine lv_iconst (v := nI 1) hx hb d_La_law_419 (by decide +kernel) ?_
        refine lv_goto (tgt := 424) hx hb d_La_law_420 (by decide) ?_
        exact hj186 _
    · refine aw_ti (y := nI 6) (by rw [hs3]) ?_
      refine lv_tableIn (tgt := 503) (off := 463) hx hb d_La_law_40 (by decide +kernel) (by decide +kernel) (by decide +kernel) (by decide) ?_
      refine lv_aload_n hx hb d_La_law_503 rfl (lv_at hl 1 rfl) ?_
      refine lv_aload_n hx hb d_La_law_504 rfl (lv_at hl 0 rfl) ?_
      refine lv_iload hx hb d_La_law_505 (lv_at hl 4 rfl) ?_
      refine lv_iconst (v := nI 1) hx hb d_La_law_507 (by decide +kernel) ?_
      refine lv_iadd hx hb d_La_law_508 ?_
      refine aw_ti (nI_add (6 * t) 1) ?_
      refine va_sld hx hb hX hbl hbA hS (i := (nI ((6 * t) + 1))) (vp_in_nI (by omega) (by omega)) d_La_law_509 ?_
      refine lv_topi (fun x210 _ => ?_)
      refine lv_aload_n hx hb d_La_law_510 rfl (lv_at hl 0 rfl) ?_
      refine lv_iload hx hb d_La_law_511 (lv_at hl 4 rfl) ?_
      refine lv_iconst (v := nI 2) hx hb d_La_law_513 (by decide +kernel) ?_
      refine lv_iadd hx hb d_La_law_514 ?_
      refine aw_ti (nI_add (6 * t) 2) ?_
      refine va_sld hx hb hX hbl hbA hS (i := (nI ((6 * t) + 2))) (vp_in_nI (by omega) (by omega)) d_La_law_515 ?_
      refine lv_topi (fun x211 _ => ?_)
      refine lv_aload_n hx hb d_La_law_516 rfl (lv_at hl 3 rfl) ?_
      refine va_calli (vx_runSW (As := [.ref (aw_r ad 0), .int x210, .int x211, .ref (aw_o ad)]) (rest := []) ⟨hx, hb, hml, hown, hG⟩ (k_La_wordJ l hst D g ad G G F N0 x210 x211 hSh.2.2.2.2.1) (aw_wW 4 hG gw_7_9 gw_7_7 gw_0_0 gw_7_8 rfl rfl hd_La_word ⟨Nat.le_of_ble_eq_true rfl, Nat.le_of_ble_eq_true rfl⟩) (aw_qS hP hD hSh hU hS) rfl rfl hl.1 rfl (lv_room (Nat.le_of_ble_eq_true rfl)) d_La_law_517 ⟨by omega, by omega⟩) hS (fun _ _ h => h) (fun _ h => h) (fun x212 u8 t8 H locs ht _ _ hB _ _ hS => ?_)
      obtain ⟨L, hP, hD, hSh⟩ := hB
      rw [ht] at hP
      clear ht
      refine lv_istore hx hb d_La_law_520 hl (by decide) rfl (fun ls hl => ?_)
      have hl : lv_has ls 8 [(5, .int x212), (0, .ref b), (1, .ref (aw_r ad 0)), (2, .ref (aw_m ad 0)), (3, .ref (aw_o ad)), (4, .int (nI (6 * t)))] := hl
      refine lv_aload_n hx hb d_La_law_522 rfl (lv_at hl 3 rfl) ?_
      refine lv_aload_n hx hb d_La_law_523 rfl (lv_at hl 1 rfl) ?_
      refine lv_iload hx hb d_La_law_524 (lv_at hl 5 rfl) ?_
      refine lv_iconst (v := nI 1) hx hb d_La_law_526 (by decide +kernel) ?_
      refine lv_iadd hx hb d_La_law_527 ?_
      refine aw_ti (nI_add (6 * t) 1) ?_
      refine va_sld hx hb hX hbl hbA hS (i := (nI ((6 * t) + 1))) (vp_in_nI (by omega) (by omega)) d_La_law_528 ?_
      refine lv_topi (fun x213 _ => ?_)
      refine lv_aload_n hx hb d_La_law_529 rfl (lv_at hl 1 rfl) ?_
      refine lv_iload hx hb d_La_law_530 (lv_at hl 5 rfl) ?_
      refine lv_iconst (v := nI 2) hx hb d_La_law_532 (by decide +kernel) ?_
      refine lv_iadd hx hb d_La_law_533 ?_
      refine aw_ti (nI_add (6 * t) 2) ?_
      refine va_sld hx hb hX hbl hbA hS (i := (nI ((6 * t) + 2))) (vp_in_nI (by omega) (by omega)) d_La_law_534 ?_
      refine lv_topi (fun x214 _ => ?_)
      obtain ⟨_, _, _, he215⟩ := rd_M0 hSh
      refine va_calli (va_runV (As := [.int x213, .int x214]) (rest := []) ⟨hx, hb, hml, hown, hG⟩ (k_Mo_wordJ l D g ad G G F N0 x213 x214 hSh.2.2.2.2.2) (aw_wV 2 hG gw_12_14 gw_12_11 gw_0_10 gw_12_12 gw_12_13 rfl rfl hd_Mo_word ⟨Nat.le_of_ble_eq_true rfl, Nat.le_of_ble_eq_true rfl⟩) (aw_qV (va_recv hK hP rfl he215) hP hD hSh hU hS) rfl rfl hl.1 rfl (lv_room (Nat.le_of_ble_eq_true rfl)) d_La_law_535 ⟨by omega, by omega⟩) hS (fun _ _ h => h) (fun _ h => h) (fun x216 u8 t8 H locs ht _ _ hB _ _ hS => ?_)
      obtain ⟨F217, L, hP, hD, hSh⟩ := hB
      rw [ht] at hP
      clear ht
      refine lv_istore hx hb d_La_law_538 hl (by decide) rfl (fun ls hl => ?_)
      have hl : lv_has ls 8 [(6, .int x216), (5, .int x212), (0, .ref b), (1, .ref (aw_r ad 0)), (2, .ref (aw_m ad 0)), (3, .ref (aw_o ad)), (4, .int (nI (6 * t)))] := hl
      refine lv_goto (tgt := 837) hx hb d_La_law_540 (by decide) ?_
      refine lv_iinc (k := 6) (v := nI (6 * t + 6)) hx hb d_La_law_837 hl rfl (aw_inc (6 * t) 6 6 (by decide +kernel)) (by decide) rfl (fun ls hl => ?_)
      have hl : lv_has ls 8 [(4, .int (nI (6 * t + 6))), (6, .int x216), (5, .int x212), (0, .ref b), (1, .ref (aw_r ad 0)), (2, .ref (aw_m ad 0)), (3, .ref (aw_o ad))] := hl
      refine lv_goto (tgt := 23) hx hb d_La_law_840 (by decide) ?_
      have hl := lv_sub hl (l' := [(0, .ref b), (1, .ref (aw_r ad 0)), (2, .ref (aw_m ad 0)), (3, .ref (aw_o ad)), (4, .int (nI (6 * t + 6)))]) [3, 4, 5, 6, 0] rfl
      refine W.widen (k := 85 + (t + 1)) (n := 1246 + 6 * (t + 1)) (by omega) (by omega) ?_
      exact ih (t + 1) G F217 _ _ L ls (by omega) hP hD hSh hS (by first | exact hl | simpa [Nat.mul_add] using hl)
    · refine aw_ti (y := nI 7) (by rw [hs3]) ?_
      refine lv_tableIn (tgt := 543) (off := 503) hx hb d_La_law_40 (by decide +kernel) (by decide +kernel) (by decide +kernel) (by decide) ?_
      obtain ⟨p0, hp0⟩ : ∃ z : Int32, z = xs (6 * t + 1) := ⟨_, rfl⟩
      rcases aw_rng 64 (by decide) p0 with hc | ⟨k, hk, rfl⟩
      · refine lv_aload_n hx hb d_La_law_543 rfl (lv_at hl 1 rfl) ?_
        refine lv_aload_n hx hb d_La_law_544 rfl (lv_at hl 0 rfl) ?_
        refine lv_iload hx hb d_La_law_545 (lv_at hl 4 rfl) ?_
        refine lv_iconst (v := nI 1) hx hb d_La_law_547 (by decide +kernel) ?_
        refine lv_iadd hx hb d_La_law_548 ?_
        refine aw_ti (nI_add (6 * t) 1) ?_
        refine va_sld hx hb hX hbl hbA hS (i := (nI ((6 * t) + 1))) (vp_in_nI (by omega) (by omega)) d_La_law_549 ?_
        refine aw_ti (y := p0) (by rw [nI_clamp (by omega)]; exact hp0.symm) ?_
        refine lv_aload_n hx hb d_La_law_550 rfl (lv_at hl 0 rfl) ?_
        refine lv_iload hx hb d_La_law_551 (lv_at hl 4 rfl) ?_
        refine lv_iconst (v := nI 2) hx hb d_La_law_553 (by decide +kernel) ?_
        refine lv_iadd hx hb d_La_law_554 ?_
        refine aw_ti (nI_add (6 * t) 2) ?_
        refine va_sld hx hb hX hbl hbA hS (i := (nI ((6 * t) + 2))) (vp_in_nI (by omega) (by omega)) d_La_law_555 ?_
        refine lv_topi (fun x218 _ => ?_)
        refine va_calli (vx_runSW (As := [.ref (aw_r ad 0), .int p0, .int x218]) (rest := []) ⟨hx, hb, hml, hown, hG⟩ (k_La_putX l hst D g ad G G F N0 p0 x218 hc) (aw_wW 3 hG gw_7_25 gw_7_23 gw_0_0 gw_7_24 rfl rfl hd_La_put ⟨Nat.le_of_ble_eq_true rfl, Nat.le_of_ble_eq_true rfl⟩) (aw_qS hP hD hSh hU hS) rfl rfl hl.1 rfl (lv_room (Nat.le_of_ble_eq_true rfl)) d_La_law_556 ⟨by omega, by omega⟩) hS (fun _ _ h => h) (fun _ h => h) (fun x219 u8 t8 H locs ht _ hpx219 hB _ _ hS => ?_)
        obtain ⟨L, hP, hD, hSh⟩ := hB
        rw [ht] at hP
        clear ht
        subst hpx219
        refine lv_istore hx hb d_La_law_559 hl (by decide) rfl (fun ls hl => ?_)
        have hl : lv_has ls 8 [(5, .int (nI 1)), (0, .ref b), (1, .ref (aw_r ad 0)), (2, .ref (aw_m ad 0)), (3, .ref (aw_o ad)), (4, .int (nI (6 * t)))] := hl
        refine lv_aload_n hx hb d_La_law_561 rfl (lv_at hl 3 rfl) ?_
        refine lv_aload_n hx hb d_La_law_562 rfl (lv_at hl 1 rfl) ?_
        refine lv_iload hx hb d_La_law_563 (lv_at hl 5 rfl) ?_
        refine lv_iconst (v := nI 1) hx hb d_La_law_565 (by decide +kernel) ?_
        refine lv_iadd hx hb d_La_law_566 ?_
        refine aw_ti (nI_add (6 * t) 1) ?_
        refine va_sld hx hb hX hbl hbA hS (i := (nI ((6 * t) + 1))) (vp_in_nI (by omega) (by omega)) d_La_law_567 ?_
        refine aw_ti (y := p0) (by rw [nI_clamp (by omega)]; exact hp0.symm) ?_
        refine lv_aload_n hx hb d_La_law_568 rfl (lv_at hl 1 rfl) ?_
        refine lv_iload hx hb d_La_law_569 (lv_at hl 5 rfl) ?_
        refine lv_iconst (v := nI 2) hx hb d_La_law_571 (by decide +kernel) ?_
        refine lv_iadd hx hb d_La_law_572 ?_
        refine aw_ti (nI_add (6 * t) 2) ?_
        refine va_sld hx hb hX hbl hbA hS (i := (nI ((6 * t) + 2))) (vp_in_nI (by omega) (by omega)) d_La_law_573 ?_
        refine lv_topi (fun x220 _ => ?_)
        obtain ⟨_, _, _, he221⟩ := rd_M0 hSh
        refine va_callv (va_runV (As := [.int p0, .int x220]) (rest := []) ⟨hx, hb, hml, hown, hG⟩ (k_Mo_putX l D g ad G G F N0 p0 x220 (aw_bnd 63 (by decide) hc)) (aw_wV 2 hG gw_12_18 gw_12_15 gw_0_10 gw_12_16 gw_12_17 rfl rfl hd_Mo_put ⟨Nat.le_of_ble_eq_true rfl, Nat.le_of_ble_eq_true rfl⟩) (aw_qV (va_recv hK hP rfl he221) hP hD hSh hU hS) rfl rfl hl.1 rfl (lv_room (Nat.le_of_ble_eq_true rfl)) d_La_law_574 ⟨by omega, by omega⟩) hS (fun _ _ h => h) (fun _ h => h) (fun u8 t8 H locs ht _ _ hB _ _ hS => ?_)
        obtain ⟨L, hP, hD, hSh⟩ := hB
        rw [ht] at hP
        clear ht
        refine lv_goto (tgt := 837) hx hb d_La_law_577 (by decide) ?_
        refine lv_iinc (k := 5) (v := nI (6 * t + 6)) hx hb d_La_law_837 hl rfl (aw_inc (6 * t) 6 6 (by decide +kernel)) (by decide) rfl (fun ls hl => ?_)
        have hl : lv_has ls 8 [(4, .int (nI (6 * t + 6))), (5, .int (nI 1)), (0, .ref b), (1, .ref (aw_r ad 0)), (2, .ref (aw_m ad 0)), (3, .ref (aw_o ad))] := hl
        refine lv_goto (tgt := 23) hx hb d_La_law_840 (by decide) ?_
        have hl := lv_sub hl (l' := [(0, .ref b), (1, .ref (aw_r ad 0)), (2, .ref (aw_m ad 0)), (3, .ref (aw_o ad)), (4, .int (nI (6 * t + 6)))]) [2, 3, 4, 5, 0] rfl
        refine W.widen (k := 85 + (t + 1)) (n := 1246 + 6 * (t + 1)) (by omega) (by omega) ?_
        exact ih (t + 1) G (nI 1) _ _ L ls (by omega) hP hD hSh hS (by first | exact hl | simpa [Nat.mul_add] using hl)
      · refine lv_aload_n hx hb d_La_law_543 rfl (lv_at hl 1 rfl) ?_
        refine lv_aload_n hx hb d_La_law_544 rfl (lv_at hl 0 rfl) ?_
        refine lv_iload hx hb d_La_law_545 (lv_at hl 4 rfl) ?_
        refine lv_iconst (v := nI 1) hx hb d_La_law_547 (by decide +kernel) ?_
        refine lv_iadd hx hb d_La_law_548 ?_
        refine aw_ti (nI_add (6 * t) 1) ?_
        refine va_sld hx hb hX hbl hbA hS (i := (nI ((6 * t) + 1))) (vp_in_nI (by omega) (by omega)) d_La_law_549 ?_
        refine aw_ti (y := nI k) (by rw [nI_clamp (by omega)]; exact hp0.symm) ?_
        refine lv_aload_n hx hb d_La_law_550 rfl (lv_at hl 0 rfl) ?_
        refine lv_iload hx hb d_La_law_551 (lv_at hl 4 rfl) ?_
        refine lv_iconst (v := nI 2) hx hb d_La_law_553 (by decide +kernel) ?_
        refine lv_iadd hx hb d_La_law_554 ?_
        refine aw_ti (nI_add (6 * t) 2) ?_
        refine va_sld hx hb hX hbl hbA hS (i := (nI ((6 * t) + 2))) (vp_in_nI (by omega) (by omega)) d_La_law_555 ?_
        refine lv_topi (fun x222 _ => ?_)
        refine va_calli (vx_runSW (As := [.ref (aw_r ad 0), .int (nI k), .int x222]) (rest := []) ⟨hx, hb, hml, hown, hG⟩ (k_La_put1 l hst D g ad G G F N0 k x222 (by omega)) (aw_wW 3 hG gw_7_25 gw_7_23 gw_0_0 gw_7_24 rfl rfl hd_La_put ⟨Nat.le_of_ble_eq_true rfl, Nat.le_of_ble_eq_true rfl⟩) (aw_qS hP hD hSh hU hS) rfl rfl hl.1 rfl (lv_room (Nat.le_of_ble_eq_true rfl)) d_La_law_556 ⟨by omega, by omega⟩) hS (fun _ _ h => h) (fun _ h => h) (fun x223 u8 t8 H locs ht _ hpx223 hB _ _ hS => ?_)
        obtain ⟨L, hP, hD, hSh⟩ := hB
        rw [ht] at hP
        clear ht
        subst hpx223
        refine lv_istore hx hb d_La_law_559 hl (by decide) rfl (fun ls hl => ?_)
        have hl : lv_has ls 8 [(5, .int (nI 0)), (0, .ref b), (1, .ref (aw_r ad 0)), (2, .ref (aw_m ad 0)), (3, .ref (aw_o ad)), (4, .int (nI (6 * t)))] := hl
        refine lv_aload_n hx hb d_La_law_561 rfl (lv_at hl 3 rfl) ?_
        refine lv_aload_n hx hb d_La_law_562 rfl (lv_at hl 1 rfl) ?_
        refine lv_iload hx hb d_La_law_563 (lv_at hl 5 rfl) ?_
        refine lv_iconst (v := nI 1) hx hb d_La_law_565 (by decide +kernel) ?_
        refine lv_iadd hx hb d_La_law_566 ?_
        refine aw_ti (nI_add (6 * t) 1) ?_
        refine va_sld hx hb hX hbl hbA hS (i := (nI ((6 * t) + 1))) (vp_in_nI (by omega) (by omega)) d_La_law_567 ?_
        refine aw_ti (y := nI k) (by rw [nI_clamp (by omega)]; exact hp0.symm) ?_
        refine lv_aload_n hx hb d_La_law_568 rfl (lv_at hl 1 rfl) ?_
        refine lv_iload hx hb d_La_law_569 (lv_at hl 5 rfl) ?_
        refine lv_iconst (v := nI 2) hx hb d_La_law_571 (by decide +kernel) ?_
        refine lv_iadd hx hb d_La_law_572 ?_
        refine aw_ti (nI_add (6 * t) 2) ?_
        refine va_sld hx hb hX hbl hbA hS (i := (nI ((6 * t) + 2))) (vp_in_nI (by omega) (by omega)) d_La_law_573 ?_
        refine lv_topi (fun x224 _ => ?_)
        obtain ⟨_, _, _, he225⟩ := rd_M0 hSh
        refine va_callv (va_runV (As := [.int (nI k), .int x224]) (rest := []) ⟨hx, hb, hml, hown, hG⟩ (k_Mo_put1 l D g ad G G F N0 k x224 (by omega)) (aw_wV 2 hG gw_12_18 gw_12_15 gw_0_10 gw_12_16 gw_12_17 rfl rfl hd_Mo_put ⟨Nat.le_of_ble_eq_true rfl, Nat.le_of_ble_eq_true rfl⟩) (aw_qV (va_recv hK hP rfl he225) hP hD hSh hU hS) rfl rfl hl.1 rfl (lv_room (Nat.le_of_ble_eq_true rfl)) d_La_law_574 ⟨by omega, by omega⟩) hS (fun _ _ h => h) (fun _ h => h) (fun u8 t8 H locs ht _ _ hB _ _ hS => ?_)
        obtain ⟨L, hP, hD, hSh⟩ := hB
        rw [ht] at hP
        clear ht
        refine lv_goto (tgt := 837) hx hb d_La_law_577 (by decide) ?_
        refine lv_iinc (k := 5) (v := nI (6 * t + 6)) hx hb d_La_law_837 hl rfl (aw_inc (6 * t) 6 6 (by decide +kernel)) (by decide) rfl (fun ls hl => ?_)
        have hl : lv_has ls 8 [(4, .int (nI (6 * t + 6))), (5, .int (nI 0)), (0, .ref b), (1, .ref (aw_r ad 0)), (2, .ref (aw_m ad 0)), (3, .ref (aw_o ad))] := hl
        refine lv_goto (tgt := 23) hx hb d_La_law_840 (by decide) ?_
        have hl := lv_sub hl (l' := [(0, .ref b), (1, .ref (aw_r ad 0)), (2, .ref (aw_m ad 0)), (3, .ref (aw_o ad)), (4, .int (nI (6 * t + 6)))]) [2, 3, 4, 5, 0] rfl
        refine W.widen (k := 85 + (t + 1)) (n := 1246 + 6 * (t + 1)) (by omega) (by omega) ?_
        exact ih (t + 1) G (nI 0) _ _ L ls (by omega) hP hD hSh hS (by first | exact hl | simpa [Nat.mul_add] using hl)
    · refine aw_ti (y := nI 8) (by rw [hs3]) ?_
      refine lv_tableIn (tgt := 580) (off := 540) hx hb d_La_law_40 (by decide +kernel) (by decide +kernel) (by decide +kernel) (by decide) ?_
      refine lv_aload_n hx hb d_La_law_580 rfl (lv_at hl 1 rfl) ?_
      refine lv_aload_n hx hb d_La_law_581 rfl (lv_at hl 0 rfl) ?_
      refine lv_iload hx hb d_La_law_582 (lv_at hl 4 rfl) ?_
      refine lv_iconst (v := nI 1) hx hb d_La_law_584 (by decide +kernel) ?_
      refine lv_iadd hx hb d_La_law_585 ?_
      refine aw_ti (nI_add (6 * t) 1) ?_
      refine va_sld hx hb hX hbl hbA hS (i := (nI ((6 * t) + 1))) (vp_in_nI (by omega) (by omega)) d_La_law_586 ?_
      refine lv_topi (fun x226 _ => ?_)
      refine lv_aload_n hx hb d_La_law_587 rfl (lv_at hl 3 rfl) ?_
      refine va_calli (vx_runSW (As := [.ref (aw_r ad 0), .int x226, .ref (aw_o ad)]) (rest := []) ⟨hx, hb, hml, hown, hG⟩ (k_La_getJ l hst D g ad G G F N0 x226 hSh.2.2.2.2.1) (aw_wW 3 hG gw_7_35 gw_7_33 gw_0_0 gw_7_34 rfl rfl hd_La_get ⟨Nat.le_of_ble_eq_true rfl, Nat.le_of_ble_eq_true rfl⟩) (aw_qS hP hD hSh hU hS) rfl rfl hl.1 rfl (lv_room (Nat.le_of_ble_eq_true rfl)) d_La_law_588 ⟨by omega, by omega⟩) hS (fun _ _ h => h) (fun _ h => h) (fun x227 u8 t8 H locs ht _ _ hB _ _ hS => ?_)
      obtain ⟨L, hP, hD, hSh⟩ := hB
      rw [ht] at hP
      clear ht
      refine lv_istore hx hb d_La_law_591 hl (by decide) rfl (fun ls hl => ?_)
      have hl : lv_has ls 8 [(5, .int x227), (0, .ref b), (1, .ref (aw_r ad 0)), (2, .ref (aw_m ad 0)), (3, .ref (aw_o ad)), (4, .int (nI (6 * t)))] := hl
      refine lv_aload_n hx hb d_La_law_593 rfl (lv_at hl 3 rfl) ?_
      refine lv_aload_n hx hb d_La_law_594 rfl (lv_at hl 1 rfl) ?_
      refine lv_iload hx hb d_La_law_595 (lv_at hl 5 rfl) ?_
      refine lv_iconst (v := nI 1) hx hb d_La_law_597 (by decide +kernel) ?_
      refine lv_iadd hx hb d_La_law_598 ?_
      refine aw_ti (nI_add (6 * t) 1) ?_
      refine va_sld hx hb hX hbl hbA hS (i := (nI ((6 * t) + 1))) (vp_in_nI (by omega) (by omega)) d_La_law_599 ?_
      refine lv_topi (fun x228 _ => ?_)
      obtain ⟨_, _, _, he229⟩ := rd_M0 hSh
      refine va_calli (va_runV (As := [.int x228]) (rest := []) ⟨hx, hb, hml, hown, hG⟩ (k_Mo_getJ l D g ad G G F N0 x228 hSh.2.2.2.2.2) (aw_wV 1 hG gw_12_22 gw_12_19 gw_0_10 gw_12_20 gw_12_21 rfl rfl hd_Mo_get ⟨Nat.le_of_ble_eq_true rfl, Nat.le_of_ble_eq_true rfl⟩) (aw_qV (va_recv hK hP rfl he229) hP hD hSh hU hS) rfl rfl hl.1 rfl (lv_room (Nat.le_of_ble_eq_true rfl)) d_La_law_600 ⟨by omega, by omega⟩) hS (fun _ _ h => h) (fun _ h => h) (fun x230 u8 t8 H locs ht _ _ hB _ _ hS => ?_)
      obtain ⟨F231, L, hP, hD, hSh⟩ := hB
      rw [ht] at hP
      clear ht
      refine lv_istore hx hb d_La_law_603 hl (by decide) rfl (fun ls hl => ?_)
      have hl : lv_has ls 8 [(6, .int x230), (5, .int x227), (0, .ref b), (1, .ref (aw_r ad 0)), (2, .ref (aw_m ad 0)), (3, .ref (aw_o ad)), (4, .int (nI (6 * t)))] := hl
      refine lv_goto (tgt := 837) hx hb d_La_law_605 (by decide) ?_
      refine lv_iinc (k := 6) (v := nI (6 * t + 6)) hx hb d_La_law_837 hl rfl (aw_inc (6 * t) 6 6 (by decide +kernel)) (by decide) rfl (fun ls hl => ?_)
      have hl : lv_has ls 8 [(4, .int (nI (6 * t + 6))), (6, .int x230), (5, .int x227), (0, .ref b), (1, .ref (aw_r ad 0)), (2, .ref (aw_m ad 0)), (3, .ref (aw_o ad))] := hl
      refine lv_goto (tgt := 23) hx hb d_La_law_840 (by decide) ?_
      have hl := lv_sub hl (l' := [(0, .ref b), (1, .ref (aw_r ad 0)), (2, .ref (aw_m ad 0)), (3, .ref (aw_o ad)), (4, .int (nI (6 * t + 6)))]) [3, 4, 5, 6, 0] rfl
      refine W.widen (k := 85 + (t + 1)) (n := 1246 + 6 * (t + 1)) (by omega) (by omega) ?_
      exact ih (t + 1) G F231 _ _ L ls (by omega) hP hD hSh hS (by first | exact hl | simpa [Nat.mul_add] using hl)
    · refine aw_ti (y := nI 9) (by rw [hs3]) ?_
      refine lv_tableIn (tgt := 608) (off := 568) hx hb d_La_law_40 (by decide +kernel) (by decide +kernel) (by decide +kernel) (by decide) ?_
      refine lv_aload_n hx hb d_La_law_608 rfl (lv_at hl 1 rfl) ?_
      refine lv_aload_n hx hb d_La_law_609 rfl (lv_at hl 0 rfl) ?_
      refine lv_iload hx hb d_La_law_610 (lv_at hl 4 rfl) ?_
      refine lv_iconst (v := nI 1) hx hb d_La_law_612 (by decide +kernel) ?_
      refine lv_iadd hx hb d_La_law_613 ?_
      refine aw_ti (nI_add (6 * t) 1) ?_
      refine va_sld hx hb hX hbl hbA hS (i := (nI ((6 * t) + 1))) (vp_in_nI (by omega) (by omega)) d_La_law_614 ?_
      refine lv_topi (fun x232 _ => ?_)
      refine lv_aload_n hx hb d_La_law_615 rfl (lv_at hl 0 rfl) ?_
      refine lv_iload hx hb d_La_law_616 (lv_at hl 4 rfl) ?_
      refine lv_iconst (v := nI 2) hx hb d_La_law_618 (by decide +kernel) ?_
      refine lv_iadd hx hb d_La_law_619 ?_
      refine aw_ti (nI_add (6 * t) 2) ?_
      refine va_sld hx hb hX hbl hbA hS (i := (nI ((6 * t) + 2))) (vp_in_nI (by omega) (by omega)) d_La_law_620 ?_
      refine lv_topi (fun x233 _ => ?_)
      have hj234 : ∀ x235 : Int32, W p l e room_1 s m #[Value.ref b] below meth c H locs (85 + t) (1246 + 6 * t) (lw_Z below #[Value.ref b] s) (F0 m 629 ls [.int x235, .int x232, .ref (aw_r ad 0)]) := by
        intro x235
        refine lv_aload_n hx hb d_La_law_629 rfl (lv_at hl 0 rfl) ?_
        refine lv_iload hx hb d_La_law_630 (lv_at hl 4 rfl) ?_
        refine lv_iconst (v := nI 3) hx hb d_La_law_632 (by decide +kernel) ?_
        refine lv_iadd hx hb d_La_law_633 ?_
        refine aw_ti (nI_add (6 * t) 3) ?_
        refine va_sld hx hb hX hbl hbA hS (i := (nI ((6 * t) + 3))) (vp_in_nI (by omega) (by omega)) d_La_law_634 ?_
        refine lv_topi (fun x236 _ => ?_)
        refine lv_aload_n hx hb d_La_law_635 rfl (lv_at hl 0 rfl) ?_
        refine lv_iload hx hb d_La_law_636 (lv_at hl 4 rfl) ?_
        refine lv_iconst (v := nI 4) hx hb d_La_law_638 (by decide +kernel) ?_
        refine lv_iadd hx hb d_La_law_639 ?_
        refine aw_ti (nI_add (6 * t) 4) ?_
        refine va_sld hx hb hX hbl hbA hS (i := (nI ((6 * t) + 4))) (vp_in_nI (by omega) (by omega)) d_La_law_640 ?_
        refine lv_topi (fun x237 _ => ?_)
        refine lv_aload_n hx hb d_La_law_641 rfl (lv_at hl 3 rfl) ?_
        refine va_calli (vx_runSW (As := [.ref (aw_r ad 0), .int x232, .int x235, .int x236, .int x237, .ref (aw_o ad)]) (rest := []) ⟨hx, hb, hml, hown, hG⟩ (k_La_feedJ l hst D g ad G G F N0 x232 x235 x236 x237 hSh.2.2.2.2.1) (aw_wW 6 hG gw_7_42 gw_7_40 gw_0_0 gw_7_41 rfl rfl hd_La_feed ⟨Nat.le_of_ble_eq_true rfl, Nat.le_of_ble_eq_true rfl⟩) (aw_qS hP hD hSh hU hS) rfl rfl hl.1 rfl (lv_room (Nat.le_of_ble_eq_true rfl)) d_La_law_642 ⟨by omega, by omega⟩) hS (fun _ _ h => h) (fun _ h => h) (fun x238 u8 t8 H locs ht _ _ hB _ _ hS => ?_)
        obtain ⟨L, hP, hD, hSh⟩ := hB
        rw [ht] at hP
        clear ht
        refine lv_istore hx hb d_La_law_645 hl (by decide) rfl (fun ls hl => ?_)
        have hl : lv_has ls 8 [(5, .int x238), (0, .ref b), (1, .ref (aw_r ad 0)), (2, .ref (aw_m ad 0)), (3, .ref (aw_o ad)), (4, .int (nI (6 * t)))] := hl
        refine lv_aload_n hx hb d_La_law_647 rfl (lv_at hl 3 rfl) ?_
        refine lv_aload_n hx hb d_La_law_648 rfl (lv_at hl 1 rfl) ?_
        refine lv_iload hx hb d_La_law_649 (lv_at hl 5 rfl) ?_
        refine lv_iconst (v := nI 1) hx hb d_La_law_651 (by decide +kernel) ?_
        refine lv_iadd hx hb d_La_law_652 ?_
        refine aw_ti (nI_add (6 * t) 1) ?_
        refine va_sld hx hb hX hbl hbA hS (i := (nI ((6 * t) + 1))) (vp_in_nI (by omega) (by omega)) d_La_law_653 ?_
        refine lv_topi (fun x239 _ => ?_)
        refine lv_aload_n hx hb d_La_law_654 rfl (lv_at hl 1 rfl) ?_
        refine lv_iload hx hb d_La_law_655 (lv_at hl 5 rfl) ?_
        refine lv_iconst (v := nI 2) hx hb d_La_law_657 (by decide +kernel) ?_
        refine lv_iadd hx hb d_La_law_658 ?_
        refine aw_ti (nI_add (6 * t) 2) ?_
        refine va_sld hx hb hX hbl hbA hS (i := (nI ((6 * t) + 2))) (vp_in_nI (by omega) (by omega)) d_La_law_659 ?_
        refine lv_topi (fun x240 _ => ?_)
        have hj241 : ∀ x242 : Int32, W p l e room_1 s m #[Value.ref b] below meth c H locs ((85 + t) + 1) ((1246 + 6 * t) + 6) (lw_Z below #[Value.ref b] s) (F0 m 668 ls [.int x242, .int x239, .ref (aw_m ad 0)]) := by
          intro x242
          refine lv_aload_n hx hb d_La_law_668 rfl (lv_at hl 1 rfl) ?_
          refine lv_iload hx hb d_La_law_669 (lv_at hl 5 rfl) ?_
          refine lv_iconst (v := nI 3) hx hb d_La_law_671 (by decide +kernel) ?_
          refine lv_iadd hx hb d_La_law_672 ?_
          refine aw_ti (nI_add (6 * t) 3) ?_
          refine va_sld hx hb hX hbl hbA hS (i := (nI ((6 * t) + 3))) (vp_in_nI (by omega) (by omega)) d_La_law_673 ?_
          refine lv_topi (fun x243 _ => ?_)
          refine lv_aload_n hx hb d_La_law_674 rfl (lv_at hl 1 rfl) ?_
          refine lv_iload hx hb d_La_law_675 (lv_at hl 5 rfl) ?_
          refine lv_iconst (v := nI 4) hx hb d_La_law_677 (by decide +kernel) ?_
          refine lv_iadd hx hb d_La_law_678 ?_
          refine aw_ti (nI_add (6 * t) 4) ?_
          refine va_sld hx hb hX hbl hbA hS (i := (nI ((6 * t) + 4))) (vp_in_nI (by omega) (by omega)) d_La_law_679 ?_
          refine lv_topi (fun x244 _ => ?_)
          obtain ⟨_, _, _, he245⟩ := rd_M0 hSh
          refine va_calli (va_runV (As := [.int x239, .int x242, .int x243, .int x244]) (rest := []) ⟨hx, hb, hml, hown, hG⟩ (k_Mo_feedJ l D g ad G G F N0 x239 x242 x243 x244 hSh.2.2.2.2.2) (aw_wV 4 hG gw_12_26 gw_12_23 gw_0_10 gw_12_24 gw_12_25 rfl rfl hd_Mo_feed ⟨Nat.le_of_ble_eq_true rfl, Nat.le_of_ble_eq_true rfl⟩) (aw_qV (va_recv hK hP rfl he245) hP hD hSh hU hS) rfl rfl hl.1 rfl (lv_room (Nat.le_of_ble_eq_true rfl)) d_La_law_680 ⟨by omega, by omega⟩) hS (fun _ _ h => h) (fun _ h => h) (fun x246 u8 t8 H locs ht _ _ hB _ _ hS => ?_)
          obtain ⟨F247, L, hP, hD, hSh⟩ := hB
          rw [ht] at hP
          clear ht
          refine lv_istore hx hb d_La_law_683 hl (by decide) rfl (fun ls hl => ?_)
          have hl : lv_has ls 8 [(6, .int x246), (5, .int x238), (0, .ref b), (1, .ref (aw_r ad 0)), (2, .ref (aw_m ad 0)), (3, .ref (aw_o ad)), (4, .int (nI (6 * t)))] := hl
          refine lv_goto (tgt := 837) hx hb d_La_law_685 (by decide) ?_
          refine lv_iinc (k := 6) (v := nI (6 * t + 6)) hx hb d_La_law_837 hl rfl (aw_inc (6 * t) 6 6 (by decide +kernel)) (by decide) rfl (fun ls hl => ?_)
          have hl : lv_has ls 8 [(4, .int (nI (6 * t + 6))), (6, .int x246), (5, .int x238), (0, .ref b), (1, .ref (aw_r ad 0)), (2, .ref (aw_m ad 0)), (3, .ref (aw_o ad))] := hl
          refine lv_goto (tgt := 23) hx hb d_La_law_840 (by decide) ?_
          have hl := lv_sub hl (l' := [(0, .ref b), (1, .ref (aw_r ad 0)), (2, .ref (aw_m ad 0)), (3, .ref (aw_o ad)), (4, .int (nI (6 * t + 6)))]) [3, 4, 5, 6, 0] rfl
          refine W.widen (k := 85 + (t + 1)) (n := 1246 + 6 * (t + 1)) (by omega) (by omega) ?_
          exact ih (t + 1) G F247 _ _ L ls (by omega) hP hD hSh hS (by first | exact hl | simpa [Nat.mul_add] using hl)
        refine lv_if_eq (tgt := 667) hx hb d_La_law_660 (by decide) (fun _ => ?_) (fun _ => ?_)
        · refine lv_iconst (v := nI 0) hx hb d_La_law_667 (by decide +kernel) ?_
          exact hj241 _
        · refine lv_iconst (v := nI 1) hx hb d_La_law_663 (by decide +kernel) ?_
          refine lv_goto (tgt := 668) hx hb d_La_law_664 (by decide) ?_
          exact hj241 _
      refine lv_if_eq (tgt := 628) hx hb d_La_law_621 (by decide) (fun _ => ?_) (fun _ => ?_)
      · refine lv_iconst (v := nI 0) hx hb d_La_law_628 (by decide +kernel) ?_
        exact hj234 _
      · refine lv_iconst (v := nI 1) hx hb d_La_law_624 (by decide +kernel) ?_
        refine lv_goto (tgt := 629) hx hb d_La_law_625 (by decide) ?_
        exact hj234 _
    · refine aw_ti (y := nI 10) (by rw [hs3]) ?_
      refine lv_tableIn (tgt := 688) (off := 648) hx hb d_La_law_40 (by decide +kernel) (by decide +kernel) (by decide +kernel) (by decide) ?_
      obtain ⟨c0, hc0⟩ : ∃ z : Int32, z = xs (6 * t + 1) := ⟨_, rfl⟩
      rcases aw_rng 4 (by decide) c0 with hc | ⟨j, hj, rfl⟩
      · refine lv_aload_n hx hb d_La_law_688 rfl (lv_at hl 1 rfl) ?_
        refine lv_aload_n hx hb d_La_law_689 rfl (lv_at hl 0 rfl) ?_
        refine lv_iload hx hb d_La_law_690 (lv_at hl 4 rfl) ?_
        refine lv_iconst (v := nI 1) hx hb d_La_law_692 (by decide +kernel) ?_
        refine lv_iadd hx hb d_La_law_693 ?_
        refine aw_ti (nI_add (6 * t) 1) ?_
        refine va_sld hx hb hX hbl hbA hS (i := (nI ((6 * t) + 1))) (vp_in_nI (by omega) (by omega)) d_La_law_694 ?_
        refine aw_ti (y := c0) (by rw [nI_clamp (by omega)]; exact hc0.symm) ?_
        refine lv_aload_n hx hb d_La_law_695 rfl (lv_at hl 0 rfl) ?_
        refine lv_iload hx hb d_La_law_696 (lv_at hl 4 rfl) ?_
        refine lv_iconst (v := nI 2) hx hb d_La_law_698 (by decide +kernel) ?_
        refine lv_iadd hx hb d_La_law_699 ?_
        refine aw_ti (nI_add (6 * t) 2) ?_
        refine va_sld hx hb hX hbl hbA hS (i := (nI ((6 * t) + 2))) (vp_in_nI (by omega) (by omega)) d_La_law_700 ?_
        refine lv_topi (fun x248 _ => ?_)
        refine lv_i2l hx hb d_La_law_701 rfl ?_
        refine lv_topl (fun y249 _ => ?_)
        refine lv_bipush (v := nI 32) hx hb d_La_law_702 (by decide +kernel) ?_
        refine lv_lshl hx hb d_La_law_704 rfl ?_
        refine lv_topl (fun y250 _ => ?_)
        refine lv_aload_n hx hb d_La_law_705 rfl (lv_at hl 0 rfl) ?_
        refine lv_iload hx hb d_La_law_706 (lv_at hl 4 rfl) ?_
        refine lv_iconst (v := nI 3) hx hb d_La_law_708 (by decide +kernel) ?_
        refine lv_iadd hx hb d_La_law_709 ?_
        refine aw_ti (nI_add (6 * t) 3) ?_
        refine va_sld hx hb hX hbl hbA hS (i := (nI ((6 * t) + 3))) (vp_in_nI (by omega) (by omega)) d_La_law_710 ?_
        refine lv_topi (fun x251 _ => ?_)
        refine lv_i2l hx hb d_La_law_711 rfl ?_
        refine lv_topl (fun y252 _ => ?_)
        refine lv_ldc2 (v := 4294967295) hx hb hown (hG _ gw_13_3) d_La_law_712 ?_
        refine lv_land hx hb d_La_law_715 ?_
        refine lv_topl (fun y253 _ => ?_)
        refine lv_lor hx hb d_La_law_716 ?_
        refine lv_topl (fun y254 _ => ?_)
        refine va_calli (vx_runSW (As := [.ref (aw_r ad 0), .int c0, .long y254]) (rest := []) ⟨hx, hb, hml, hown, hG⟩ (k_La_seekXc l hst D g ad G G F N0 c0 y254 hc) (aw_wW 3 hG gw_8_26 gw_8_24 gw_0_0 gw_8_25 rfl rfl hd_La_seek ⟨Nat.le_of_ble_eq_true rfl, Nat.le_of_ble_eq_true rfl⟩) (aw_qS hP hD hSh hU hS) rfl rfl hl.1 rfl (lv_room (Nat.le_of_ble_eq_true rfl)) d_La_law_717 ⟨by omega, by omega⟩) hS (fun _ _ h => h) (fun _ h => h) (fun x255 u8 t8 H locs ht _ hpx255 hB _ _ hS => ?_)
        obtain ⟨L, hP, hD, hSh⟩ := hB
        rw [ht] at hP
        clear ht
        subst hpx255
        refine lv_istore hx hb d_La_law_720 hl (by decide) rfl (fun ls hl => ?_)
        have hl : lv_has ls 8 [(5, .int (nI 1)), (0, .ref b), (1, .ref (aw_r ad 0)), (2, .ref (aw_m ad 0)), (3, .ref (aw_o ad)), (4, .int (nI (6 * t)))] := hl
        refine lv_aload_n hx hb d_La_law_722 rfl (lv_at hl 3 rfl) ?_
        refine lv_aload_n hx hb d_La_law_723 rfl (lv_at hl 1 rfl) ?_
        refine lv_iload hx hb d_La_law_724 (lv_at hl 5 rfl) ?_
        refine lv_iconst (v := nI 1) hx hb d_La_law_726 (by decide +kernel) ?_
        refine lv_iadd hx hb d_La_law_727 ?_
        refine aw_ti (nI_add (6 * t) 1) ?_
        refine va_sld hx hb hX hbl hbA hS (i := (nI ((6 * t) + 1))) (vp_in_nI (by omega) (by omega)) d_La_law_728 ?_
        refine aw_ti (y := c0) (by rw [nI_clamp (by omega)]; exact hc0.symm) ?_
        refine lv_aload_n hx hb d_La_law_729 rfl (lv_at hl 1 rfl) ?_
        refine lv_iload hx hb d_La_law_730 (lv_at hl 5 rfl) ?_
        refine lv_iconst (v := nI 2) hx hb d_La_law_732 (by decide +kernel) ?_
        refine lv_iadd hx hb d_La_law_733 ?_
        refine aw_ti (nI_add (6 * t) 2) ?_
        refine va_sld hx hb hX hbl hbA hS (i := (nI ((6 * t) + 2))) (vp_in_nI (by omega) (by omega)) d_La_law_734 ?_
        refine lv_topi (fun x256 _ => ?_)
        refine lv_i2l hx hb d_La_law_735 rfl ?_
        refine lv_topl (fun y257 _ => ?_)
        refine lv_bipush (v := nI 32) hx hb d_La_law_736 (by decide +kernel) ?_
        refine lv_lshl hx hb d_La_law_738 rfl ?_
        refine lv_topl (fun y258 _ => ?_)
        refine lv_aload_n hx hb d_La_law_739 rfl (lv_at hl 1 rfl) ?_
        refine lv_iload hx hb d_La_law_740 (lv_at hl 5 rfl) ?_
        refine lv_iconst (v := nI 3) hx hb d_La_law_742 (by decide +kernel) ?_
        refine lv_iadd hx hb d_La_law_743 ?_
        refine aw_ti (nI_add (6 * t) 3) ?_
        refine va_sld hx hb hX hbl hbA hS (i := (nI ((6 * t) + 3))) (vp_in_nI (by omega) (by omega)) d_La_law_744 ?_
        refine lv_topi (fun x259 _ => ?_)
        refine lv_i2l hx hb d_La_law_745 rfl ?_
        refine lv_topl (fun y260 _ => ?_)
        refine lv_ldc2 (v := 4294967295) hx hb hown (hG _ gw_13_3) d_La_law_746 ?_
        refine lv_land hx hb d_La_law_749 ?_
        refine lv_topl (fun y261 _ => ?_)
        refine lv_lor hx hb d_La_law_750 ?_
        refine lv_topl (fun y262 _ => ?_)
        obtain ⟨_, _, _, he263⟩ := rd_M0 hSh
        refine va_callv (va_runV (As := [.int c0, .long y262]) (rest := []) ⟨hx, hb, hml, hown, hG⟩ (k_Mo_seekXc l D g ad G G F N0 c0 y262 hc) (aw_wV 2 hG gw_12_45 gw_12_42 gw_0_10 gw_12_43 gw_12_44 rfl rfl hd_Mo_seek ⟨Nat.le_of_ble_eq_true rfl, Nat.le_of_ble_eq_true rfl⟩) (aw_qV (va_recv hK hP rfl he263) hP hD hSh hU hS) rfl rfl hl.1 rfl (lv_room (Nat.le_of_ble_eq_true rfl)) d_La_law_751 ⟨by omega, by omega⟩) hS (fun _ _ h => h) (fun _ h => h) (fun u8 t8 H locs ht _ _ hB _ _ hS => ?_)
        obtain ⟨L, hP, hD, hSh⟩ := hB
        rw [ht] at hP
        clear ht
        refine lv_goto (tgt := 837) hx hb d_La_law_754 (by decide) ?_
        refine lv_iinc (k := 5) (v := nI (6 * t + 6)) hx hb d_La_law_837 hl rfl (aw_inc (6 * t) 6 6 (by decide +kernel)) (by decide) rfl (fun ls hl => ?_)
        have hl : lv_has ls 8 [(4, .int (nI (6 * t + 6))), (5, .int (nI 1)), (0, .ref b), (1, .ref (aw_r ad 0)), (2, .ref (aw_m ad 0)), (3, .ref (aw_o ad))] := hl
        refine lv_goto (tgt := 23) hx hb d_La_law_840 (by decide) ?_
        have hl := lv_sub hl (l' := [(0, .ref b), (1, .ref (aw_r ad 0)), (2, .ref (aw_m ad 0)), (3, .ref (aw_o ad)), (4, .int (nI (6 * t + 6)))]) [2, 3, 4, 5, 0] rfl
        refine W.widen (k := 85 + (t + 1)) (n := 1246 + 6 * (t + 1)) (by omega) (by omega) ?_
        exact ih (t + 1) G (nI 1) _ _ L ls (by omega) hP hD hSh hS (by first | exact hl | simpa [Nat.mul_add] using hl)
      · have hgj := hSh.2.2.2.2.1 j hj
        by_cases hs : (G j).1 = 3 ∧ (G j).2 = 4
        · refine lv_aload_n hx hb d_La_law_688 rfl (lv_at hl 1 rfl) ?_
          refine lv_aload_n hx hb d_La_law_689 rfl (lv_at hl 0 rfl) ?_
          refine lv_iload hx hb d_La_law_690 (lv_at hl 4 rfl) ?_
          refine lv_iconst (v := nI 1) hx hb d_La_law_692 (by decide +kernel) ?_
          refine lv_iadd hx hb d_La_law_693 ?_
          refine aw_ti (nI_add (6 * t) 1) ?_
          refine va_sld hx hb hX hbl hbA hS (i := (nI ((6 * t) + 1))) (vp_in_nI (by omega) (by omega)) d_La_law_694 ?_
          refine aw_ti (y := nI j) (by rw [nI_clamp (by omega)]; exact hc0.symm) ?_
          refine lv_aload_n hx hb d_La_law_695 rfl (lv_at hl 0 rfl) ?_
          refine lv_iload hx hb d_La_law_696 (lv_at hl 4 rfl) ?_
          refine lv_iconst (v := nI 2) hx hb d_La_law_698 (by decide +kernel) ?_
          refine lv_iadd hx hb d_La_law_699 ?_
          refine aw_ti (nI_add (6 * t) 2) ?_
          refine va_sld hx hb hX hbl hbA hS (i := (nI ((6 * t) + 2))) (vp_in_nI (by omega) (by omega)) d_La_law_700 ?_
          refine lv_topi (fun x264 _ => ?_)
          refine lv_i2l hx hb d_La_law_701 rfl ?_
          refine lv_topl (fun y265 _ => ?_)
          refine lv_bipush (v := nI 32) hx hb d_La_law_702 (by decide +kernel) ?_
          refine lv_lshl hx hb d_La_law_704 rfl ?_
          refine lv_topl (fun y266 _ => ?_)
          refine lv_aload_n hx hb d_La_law_705 rfl (lv_at hl 0 rfl) ?_
          refine lv_iload hx hb d_La_law_706 (lv_at hl 4 rfl) ?_
          refine lv_iconst (v := nI 3) hx hb d_La_law_708 (by decide +kernel) ?_
          refine lv_iadd hx hb d_La_law_709 ?_
          refine aw_ti (nI_add (6 * t) 3) ?_
          refine va_sld hx hb hX hbl hbA hS (i := (nI ((6 * t) + 3))) (vp_in_nI (by omega) (by omega)) d_La_law_710 ?_
          refine lv_topi (fun x267 _ => ?_)
          refine lv_i2l hx hb d_La_law_711 rfl ?_
          refine lv_topl (fun y268 _ => ?_)
          refine lv_ldc2 (v := 4294967295) hx hb hown (hG _ gw_13_3) d_La_law_712 ?_
          refine lv_land hx hb d_La_law_715 ?_
          refine lv_topl (fun y269 _ => ?_)
          refine lv_lor hx hb d_La_law_716 ?_
          refine lv_topl (fun y270 _ => ?_)
          refine va_calli (vx_runSW (As := [.ref (aw_r ad 0), .int (nI j), .long y270]) (rest := []) ⟨hx, hb, hml, hown, hG⟩ (k_La_seek1 l hst D g ad G G F N0 j y270 hj (by omega)) (aw_wW 3 hG gw_8_26 gw_8_24 gw_0_0 gw_8_25 rfl rfl hd_La_seek ⟨Nat.le_of_ble_eq_true rfl, Nat.le_of_ble_eq_true rfl⟩) (aw_qS hP hD hSh hU hS) rfl rfl hl.1 rfl (lv_room (Nat.le_of_ble_eq_true rfl)) d_La_law_717 ⟨by omega, by omega⟩) hS (fun _ _ h => h) (fun _ h => h) (fun x271 u8 t8 H locs ht _ hpx271 hB _ _ hS => ?_)
          obtain ⟨L, hP, hD, hSh⟩ := hB
          rw [ht] at hP
          clear ht
          subst hpx271
          refine lv_istore hx hb d_La_law_720 hl (by decide) rfl (fun ls hl => ?_)
          have hl : lv_has ls 8 [(5, .int (nI 0)), (0, .ref b), (1, .ref (aw_r ad 0)), (2, .ref (aw_m ad 0)), (3, .ref (aw_o ad)), (4, .int (nI (6 * t)))] := hl
          refine lv_aload_n hx hb d_La_law_722 rfl (lv_at hl 3 rfl) ?_
          refine lv_aload_n hx hb d_La_law_723 rfl (lv_at hl 1 rfl) ?_
          refine lv_iload hx hb d_La_law_724 (lv_at hl 5 rfl) ?_
          refine lv_iconst (v := nI 1) hx hb d_La_law_726 (by decide +kernel) ?_
          refine lv_iadd hx hb d_La_law_727 ?_
          refine aw_ti (nI_add (6 * t) 1) ?_
          refine va_sld hx hb hX hbl hbA hS (i := (nI ((6 * t) + 1))) (vp_in_nI (by omega) (by omega)) d_La_law_728 ?_
          refine aw_ti (y := nI j) (by rw [nI_clamp (by omega)]; exact hc0.symm) ?_
          refine lv_aload_n hx hb d_La_law_729 rfl (lv_at hl 1 rfl) ?_
          refine lv_iload hx hb d_La_law_730 (lv_at hl 5 rfl) ?_
          refine lv_iconst (v := nI 2) hx hb d_La_law_732 (by decide +kernel) ?_
          refine lv_iadd hx hb d_La_law_733 ?_
          refine aw_ti (nI_add (6 * t) 2) ?_
          refine va_sld hx hb hX hbl hbA hS (i := (nI ((6 * t) + 2))) (vp_in_nI (by omega) (by omega)) d_La_law_734 ?_
          refine lv_topi (fun x272 _ => ?_)
          refine lv_i2l hx hb d_La_law_735 rfl ?_
          refine lv_topl (fun y273 _ => ?_)
          refine lv_bipush (v := nI 32) hx hb d_La_law_736 (by decide +kernel) ?_
          refine lv_lshl hx hb d_La_law_738 rfl ?_
          refine lv_topl (fun y274 _ => ?_)
          refine lv_aload_n hx hb d_La_law_739 rfl (lv_at hl 1 rfl) ?_
          refine lv_iload hx hb d_La_law_740 (lv_at hl 5 rfl) ?_
          refine lv_iconst (v := nI 3) hx hb d_La_law_742 (by decide +kernel) ?_
          refine lv_iadd hx hb d_La_law_743 ?_
          refine aw_ti (nI_add (6 * t) 3) ?_
          refine va_sld hx hb hX hbl hbA hS (i := (nI ((6 * t) + 3))) (vp_in_nI (by omega) (by omega)) d_La_law_744 ?_
          refine lv_topi (fun x275 _ => ?_)
          refine lv_i2l hx hb d_La_law_745 rfl ?_
          refine lv_topl (fun y276 _ => ?_)
          refine lv_ldc2 (v := 4294967295) hx hb hown (hG _ gw_13_3) d_La_law_746 ?_
          refine lv_land hx hb d_La_law_749 ?_
          refine lv_topl (fun y277 _ => ?_)
          refine lv_lor hx hb d_La_law_750 ?_
          refine lv_topl (fun y278 _ => ?_)
          obtain ⟨_, _, _, he279⟩ := rd_M0 hSh
          refine va_callv (va_runV (As := [.int (nI j), .long y278]) (rest := []) ⟨hx, hb, hml, hown, hG⟩ (k_Mo_seek1 l D g ad G G F N0 j y278 hj (by omega)) (aw_wV 2 hG gw_12_45 gw_12_42 gw_0_10 gw_12_43 gw_12_44 rfl rfl hd_Mo_seek ⟨Nat.le_of_ble_eq_true rfl, Nat.le_of_ble_eq_true rfl⟩) (aw_qV (va_recv hK hP rfl he279) hP hD hSh hU hS) rfl rfl hl.1 rfl (lv_room (Nat.le_of_ble_eq_true rfl)) d_La_law_751 ⟨by omega, by omega⟩) hS (fun _ _ h => h) (fun _ h => h) (fun u8 t8 H locs ht _ _ hB _ _ hS => ?_)
          obtain ⟨L, hP, hD, hSh⟩ := hB
          rw [ht] at hP
          clear ht
          refine lv_goto (tgt := 837) hx hb d_La_law_754 (by decide) ?_
          refine lv_iinc (k := 5) (v := nI (6 * t + 6)) hx hb d_La_law_837 hl rfl (aw_inc (6 * t) 6 6 (by decide +kernel)) (by decide) rfl (fun ls hl => ?_)
          have hl : lv_has ls 8 [(4, .int (nI (6 * t + 6))), (5, .int (nI 0)), (0, .ref b), (1, .ref (aw_r ad 0)), (2, .ref (aw_m ad 0)), (3, .ref (aw_o ad))] := hl
          refine lv_goto (tgt := 23) hx hb d_La_law_840 (by decide) ?_
          have hl := lv_sub hl (l' := [(0, .ref b), (1, .ref (aw_r ad 0)), (2, .ref (aw_m ad 0)), (3, .ref (aw_o ad)), (4, .int (nI (6 * t + 6)))]) [2, 3, 4, 5, 0] rfl
          refine W.widen (k := 85 + (t + 1)) (n := 1246 + 6 * (t + 1)) (by omega) (by omega) ?_
          exact ih (t + 1) G (nI 0) _ _ L ls (by omega) hP hD hSh hS (by first | exact hl | simpa [Nat.mul_add] using hl)
        · refine lv_aload_n hx hb d_La_law_688 rfl (lv_at hl 1 rfl) ?_
          refine lv_aload_n hx hb d_La_law_689 rfl (lv_at hl 0 rfl) ?_
          refine lv_iload hx hb d_La_law_690 (lv_at hl 4 rfl) ?_
          refine lv_iconst (v := nI 1) hx hb d_La_law_692 (by decide +kernel) ?_
          refine lv_iadd hx hb d_La_law_693 ?_
          refine aw_ti (nI_add (6 * t) 1) ?_
          refine va_sld hx hb hX hbl hbA hS (i := (nI ((6 * t) + 1))) (vp_in_nI (by omega) (by omega)) d_La_law_694 ?_
          refine aw_ti (y := nI j) (by rw [nI_clamp (by omega)]; exact hc0.symm) ?_
          refine lv_aload_n hx hb d_La_law_695 rfl (lv_at hl 0 rfl) ?_
          refine lv_iload hx hb d_La_law_696 (lv_at hl 4 rfl) ?_
          refine lv_iconst (v := nI 2) hx hb d_La_law_698 (by decide +kernel) ?_
          refine lv_iadd hx hb d_La_law_699 ?_
          refine aw_ti (nI_add (6 * t) 2) ?_
          refine va_sld hx hb hX hbl hbA hS (i := (nI ((6 * t) + 2))) (vp_in_nI (by omega) (by omega)) d_La_law_700 ?_
          refine lv_topi (fun x280 _ => ?_)
          refine lv_i2l hx hb d_La_law_701 rfl ?_
          refine lv_topl (fun y281 _ => ?_)
          refine lv_bipush (v := nI 32) hx hb d_La_law_702 (by decide +kernel) ?_
          refine lv_lshl hx hb d_La_law_704 rfl ?_
          refine lv_topl (fun y282 _ => ?_)
          refine lv_aload_n hx hb d_La_law_705 rfl (lv_at hl 0 rfl) ?_
          refine lv_iload hx hb d_La_law_706 (lv_at hl 4 rfl) ?_
          refine lv_iconst (v := nI 3) hx hb d_La_law_708 (by decide +kernel) ?_
          refine lv_iadd hx hb d_La_law_709 ?_
          refine aw_ti (nI_add (6 * t) 3) ?_
          refine va_sld hx hb hX hbl hbA hS (i := (nI ((6 * t) + 3))) (vp_in_nI (by omega) (by omega)) d_La_law_710 ?_
          refine lv_topi (fun x283 _ => ?_)
          refine lv_i2l hx hb d_La_law_711 rfl ?_
          refine lv_topl (fun y284 _ => ?_)
          refine lv_ldc2 (v := 4294967295) hx hb hown (hG _ gw_13_3) d_La_law_712 ?_
          refine lv_land hx hb d_La_law_715 ?_
          refine lv_topl (fun y285 _ => ?_)
          refine lv_lor hx hb d_La_law_716 ?_
          refine lv_topl (fun y286 _ => ?_)
          refine va_calli (vx_runSW (As := [.ref (aw_r ad 0), .int (nI j), .long y286]) (rest := []) ⟨hx, hb, hml, hown, hG⟩ (k_La_seekXs l hst D g ad G G F N0 j y286 hj (by omega)) (aw_wW 3 hG gw_8_26 gw_8_24 gw_0_0 gw_8_25 rfl rfl hd_La_seek ⟨Nat.le_of_ble_eq_true rfl, Nat.le_of_ble_eq_true rfl⟩) (aw_qS hP hD hSh hU hS) rfl rfl hl.1 rfl (lv_room (Nat.le_of_ble_eq_true rfl)) d_La_law_717 ⟨by omega, by omega⟩) hS (fun _ _ h => h) (fun _ h => h) (fun x287 u8 t8 H locs ht _ hpx287 hB _ _ hS => ?_)
          obtain ⟨L, hP, hD, hSh⟩ := hB
          rw [ht] at hP
          clear ht
          subst hpx287
          refine lv_istore hx hb d_La_law_720 hl (by decide) rfl (fun ls hl => ?_)
          have hl : lv_has ls 8 [(5, .int (nI 2)), (0, .ref b), (1, .ref (aw_r ad 0)), (2, .ref (aw_m ad 0)), (3, .ref (aw_o ad)), (4, .int (nI (6 * t)))] := hl
          refine lv_aload_n hx hb d_La_law_722 rfl (lv_at hl 3 rfl) ?_
          refine lv_aload_n hx hb d_La_law_723 rfl (lv_at hl 1 rfl) ?_
          refine lv_iload hx hb d_La_law_724 (lv_at hl 5 rfl) ?_
          refine lv_iconst (v := nI 1) hx hb d_La_law_726 (by decide +kernel) ?_
          refine lv_iadd hx hb d_La_law_727 ?_
          refine aw_ti (nI_add (6 * t) 1) ?_
          refine va_sld hx hb hX hbl hbA hS (i := (nI ((6 * t) + 1))) (vp_in_nI (by omega) (by omega)) d_La_law_728 ?_
          refine aw_ti (y := nI j) (by rw [nI_clamp (by omega)]; exact hc0.symm) ?_
          refine lv_aload_n hx hb d_La_law_729 rfl (lv_at hl 1 rfl) ?_
          refine lv_iload hx hb d_La_law_730 (lv_at hl 5 rfl) ?_
          refine lv_iconst (v := nI 2) hx hb d_La_law_732 (by decide +kernel) ?_
          refine lv_iadd hx hb d_La_law_733 ?_
          refine aw_ti (nI_add (6 * t) 2) ?_
          refine va_sld hx hb hX hbl hbA hS (i := (nI ((6 * t) + 2))) (vp_in_nI (by omega) (by omega)) d_La_law_734 ?_
          refine lv_topi (fun x288 _ => ?_)
          refine lv_i2l hx hb d_La_law_735 rfl ?_
          refine lv_topl (fun y289 _ => ?_)
          refine lv_bipush (v := nI 32) hx hb d_La_law_736 (by decide +kernel) ?_
          refine lv_lshl hx hb d_La_law_738 rfl ?_
          refine lv_topl (fun y290 _ => ?_)
          refine lv_aload_n hx hb d_La_law_739 rfl (lv_at hl 1 rfl) ?_
          refine lv_iload hx hb d_La_law_740 (lv_at hl 5 rfl) ?_
          refine lv_iconst (v := nI 3) hx hb d_La_law_742 (by decide +kernel) ?_
          refine lv_iadd hx hb d_La_law_743 ?_
          refine aw_ti (nI_add (6 * t) 3) ?_
          refine va_sld hx hb hX hbl hbA hS (i := (nI ((6 * t) + 3))) (vp_in_nI (by omega) (by omega)) d_La_law_744 ?_
          refine lv_topi (fun x291 _ => ?_)
          refine lv_i2l hx hb d_La_law_745 rfl ?_
          refine lv_topl (fun y292 _ => ?_)
          refine lv_ldc2 (v := 4294967295) hx hb hown (hG _ gw_13_3) d_La_law_746 ?_
          refine lv_land hx hb d_La_law_749 ?_
          refine lv_topl (fun y293 _ => ?_)
          refine lv_lor hx hb d_La_law_750 ?_
          refine lv_topl (fun y294 _ => ?_)
          obtain ⟨_, _, _, he295⟩ := rd_M0 hSh
          refine va_callv (va_runV (As := [.int (nI j), .long y294]) (rest := []) ⟨hx, hb, hml, hown, hG⟩ (k_Mo_seekXs l D g ad G G F N0 j y294 hj (by omega)) (aw_wV 2 hG gw_12_45 gw_12_42 gw_0_10 gw_12_43 gw_12_44 rfl rfl hd_Mo_seek ⟨Nat.le_of_ble_eq_true rfl, Nat.le_of_ble_eq_true rfl⟩) (aw_qV (va_recv hK hP rfl he295) hP hD hSh hU hS) rfl rfl hl.1 rfl (lv_room (Nat.le_of_ble_eq_true rfl)) d_La_law_751 ⟨by omega, by omega⟩) hS (fun _ _ h => h) (fun _ h => h) (fun u8 t8 H locs ht _ _ hB _ _ hS => ?_)
          obtain ⟨L, hP, hD, hSh⟩ := hB
          rw [ht] at hP
          clear ht
          refine lv_goto (tgt := 837) hx hb d_La_law_754 (by decide) ?_
          refine lv_iinc (k := 5) (v := nI (6 * t + 6)) hx hb d_La_law_837 hl rfl (aw_inc (6 * t) 6 6 (by decide +kernel)) (by decide) rfl (fun ls hl => ?_)
          have hl : lv_has ls 8 [(4, .int (nI (6 * t + 6))), (5, .int (nI 2)), (0, .ref b), (1, .ref (aw_r ad 0)), (2, .ref (aw_m ad 0)), (3, .ref (aw_o ad))] := hl
          refine lv_goto (tgt := 23) hx hb d_La_law_840 (by decide) ?_
          have hl := lv_sub hl (l' := [(0, .ref b), (1, .ref (aw_r ad 0)), (2, .ref (aw_m ad 0)), (3, .ref (aw_o ad)), (4, .int (nI (6 * t + 6)))]) [2, 3, 4, 5, 0] rfl
          refine W.widen (k := 85 + (t + 1)) (n := 1246 + 6 * (t + 1)) (by omega) (by omega) ?_
          exact ih (t + 1) G (nI 2) _ _ L ls (by omega) hP hD hSh hS (by first | exact hl | simpa [Nat.mul_add] using hl)
    · refine aw_ti (y := nI 11) (by rw [hs3]) ?_
      refine lv_tableIn (tgt := 757) (off := 717) hx hb d_La_law_40 (by decide +kernel) (by decide +kernel) (by decide +kernel) (by decide) ?_
      refine lv_aload_n hx hb d_La_law_757 rfl (lv_at hl 1 rfl) ?_
      refine lv_aload_n hx hb d_La_law_758 rfl (lv_at hl 0 rfl) ?_
      refine lv_iload hx hb d_La_law_759 (lv_at hl 4 rfl) ?_
      refine lv_iconst (v := nI 1) hx hb d_La_law_761 (by decide +kernel) ?_
      refine lv_iadd hx hb d_La_law_762 ?_
      refine aw_ti (nI_add (6 * t) 1) ?_
      refine va_sld hx hb hX hbl hbA hS (i := (nI ((6 * t) + 1))) (vp_in_nI (by omega) (by omega)) d_La_law_763 ?_
      refine lv_topi (fun x296 _ => ?_)
      refine lv_aload_n hx hb d_La_law_764 rfl (lv_at hl 0 rfl) ?_
      refine lv_iload hx hb d_La_law_765 (lv_at hl 4 rfl) ?_
      refine lv_iconst (v := nI 2) hx hb d_La_law_767 (by decide +kernel) ?_
      refine lv_iadd hx hb d_La_law_768 ?_
      refine aw_ti (nI_add (6 * t) 2) ?_
      refine va_sld hx hb hX hbl hbA hS (i := (nI ((6 * t) + 2))) (vp_in_nI (by omega) (by omega)) d_La_law_769 ?_
      refine lv_topi (fun x297 _ => ?_)
      refine lv_aload_n hx hb d_La_law_770 rfl (lv_at hl 0 rfl) ?_
      refine lv_iload hx hb d_La_law_771 (lv_at hl 4 rfl) ?_
      refine lv_iconst (v := nI 3) hx hb d_La_law_773 (by decide +kernel) ?_
      refine lv_iadd hx hb d_La_law_774 ?_
      refine aw_ti (nI_add (6 * t) 3) ?_
      refine va_sld hx hb hX hbl hbA hS (i := (nI ((6 * t) + 3))) (vp_in_nI (by omega) (by omega)) d_La_law_775 ?_
      refine lv_topi (fun x298 _ => ?_)
      refine lv_aload_n hx hb d_La_law_776 rfl (lv_at hl 3 rfl) ?_
      refine va_calli (vx_runSW (As := [.ref (aw_r ad 0), .int x296, .int x297, .int x298, .ref (aw_o ad)]) (rest := []) ⟨hx, hb, hml, hown, hG⟩ (k_La_takeJ l hst D g ad G G F N0 x296 x297 x298 hSh.2.2.2.2.1) (aw_wW 5 hG gw_8_40 gw_8_38 gw_0_0 gw_8_39 rfl rfl hd_La_take ⟨Nat.le_of_ble_eq_true rfl, Nat.le_of_ble_eq_true rfl⟩) (aw_qS hP hD hSh hU hS) rfl rfl hl.1 rfl (lv_room (Nat.le_of_ble_eq_true rfl)) d_La_law_777 ⟨by omega, by omega⟩) hS (fun _ _ h => h) (fun _ h => h) (fun x299 u8 t8 H locs ht _ _ hB _ _ hS => ?_)
      obtain ⟨L, hP, hD, hSh⟩ := hB
      rw [ht] at hP
      clear ht
      refine lv_istore hx hb d_La_law_780 hl (by decide) rfl (fun ls hl => ?_)
      have hl : lv_has ls 8 [(5, .int x299), (0, .ref b), (1, .ref (aw_r ad 0)), (2, .ref (aw_m ad 0)), (3, .ref (aw_o ad)), (4, .int (nI (6 * t)))] := hl
      refine lv_aload_n hx hb d_La_law_782 rfl (lv_at hl 3 rfl) ?_
      refine lv_aload_n hx hb d_La_law_783 rfl (lv_at hl 1 rfl) ?_
      refine lv_iload hx hb d_La_law_784 (lv_at hl 5 rfl) ?_
      refine lv_iconst (v := nI 1) hx hb d_La_law_786 (by decide +kernel) ?_
      refine lv_iadd hx hb d_La_law_787 ?_
      refine aw_ti (nI_add (6 * t) 1) ?_
      refine va_sld hx hb hX hbl hbA hS (i := (nI ((6 * t) + 1))) (vp_in_nI (by omega) (by omega)) d_La_law_788 ?_
      refine lv_topi (fun x300 _ => ?_)
      refine lv_aload_n hx hb d_La_law_789 rfl (lv_at hl 1 rfl) ?_
      refine lv_iload hx hb d_La_law_790 (lv_at hl 5 rfl) ?_
      refine lv_iconst (v := nI 2) hx hb d_La_law_792 (by decide +kernel) ?_
      refine lv_iadd hx hb d_La_law_793 ?_
      refine aw_ti (nI_add (6 * t) 2) ?_
      refine va_sld hx hb hX hbl hbA hS (i := (nI ((6 * t) + 2))) (vp_in_nI (by omega) (by omega)) d_La_law_794 ?_
      refine lv_topi (fun x301 _ => ?_)
      refine lv_aload_n hx hb d_La_law_795 rfl (lv_at hl 1 rfl) ?_
      refine lv_iload hx hb d_La_law_796 (lv_at hl 5 rfl) ?_
      refine lv_iconst (v := nI 3) hx hb d_La_law_798 (by decide +kernel) ?_
      refine lv_iadd hx hb d_La_law_799 ?_
      refine aw_ti (nI_add (6 * t) 3) ?_
      refine va_sld hx hb hX hbl hbA hS (i := (nI ((6 * t) + 3))) (vp_in_nI (by omega) (by omega)) d_La_law_800 ?_
      refine lv_topi (fun x302 _ => ?_)
      obtain ⟨_, _, _, he303⟩ := rd_M0 hSh
      refine va_calli (va_runV (As := [.int x300, .int x301, .int x302]) (rest := []) ⟨hx, hb, hml, hown, hG⟩ (k_Mo_takeJ l D g ad G G F N0 x300 x301 x302 hSh.2.2.2.2.2) (aw_wV 3 hG gw_12_49 gw_12_46 gw_0_10 gw_12_47 gw_12_48 rfl rfl hd_Mo_take ⟨Nat.le_of_ble_eq_true rfl, Nat.le_of_ble_eq_true rfl⟩) (aw_qV (va_recv hK hP rfl he303) hP hD hSh hU hS) rfl rfl hl.1 rfl (lv_room (Nat.le_of_ble_eq_true rfl)) d_La_law_801 ⟨by omega, by omega⟩) hS (fun _ _ h => h) (fun _ h => h) (fun x304 u8 t8 H locs ht _ _ hB _ _ hS => ?_)
      obtain ⟨F305, L, hP, hD, hSh⟩ := hB
      rw [ht] at hP
      clear ht
      refine lv_istore hx hb d_La_law_804 hl (by decide) rfl (fun ls hl => ?_)
      have hl : lv_has ls 8 [(6, .int x304), (5, .int x299), (0, .ref b), (1, .ref (aw_r ad 0)), (2, .ref (aw_m ad 0)), (3, .ref (aw_o ad)), (4, .int (nI (6 * t)))] := hl
      refine lv_goto (tgt := 837) hx hb d_La_law_806 (by decide) ?_
      refine lv_iinc (k := 6) (v := nI (6 * t + 6)) hx hb d_La_law_837 hl rfl (aw_inc (6 * t) 6 6 (by decide +kernel)) (by decide) rfl (fun ls hl => ?_)
      have hl : lv_has ls 8 [(4, .int (nI (6 * t + 6))), (6, .int x304), (5, .int x299), (0, .ref b), (1, .ref (aw_r ad 0)), (2, .ref (aw_m ad 0)), (3, .ref (aw_o ad))] := hl
      refine lv_goto (tgt := 23) hx hb d_La_law_840 (by decide) ?_
      have hl := lv_sub hl (l' := [(0, .ref b), (1, .ref (aw_r ad 0)), (2, .ref (aw_m ad 0)), (3, .ref (aw_o ad)), (4, .int (nI (6 * t + 6)))]) [3, 4, 5, 6, 0] rfl
      refine W.widen (k := 85 + (t + 1)) (n := 1246 + 6 * (t + 1)) (by omega) (by omega) ?_
      exact ih (t + 1) G F305 _ _ L ls (by omega) hP hD hSh hS (by first | exact hl | simpa [Nat.mul_add] using hl)
    · refine aw_ti (y := nI 12) (by rw [hs3]) ?_
      refine lv_tableIn (tgt := 809) (off := 769) hx hb d_La_law_40 (by decide +kernel) (by decide +kernel) (by decide +kernel) (by decide) ?_
      refine lv_aload_n hx hb d_La_law_809 rfl (lv_at hl 1 rfl) ?_
      refine lv_aload_n hx hb d_La_law_810 rfl (lv_at hl 0 rfl) ?_
      refine lv_iload hx hb d_La_law_811 (lv_at hl 4 rfl) ?_
      refine lv_iconst (v := nI 1) hx hb d_La_law_813 (by decide +kernel) ?_
      refine lv_iadd hx hb d_La_law_814 ?_
      refine aw_ti (nI_add (6 * t) 1) ?_
      refine va_sld hx hb hX hbl hbA hS (i := (nI ((6 * t) + 1))) (vp_in_nI (by omega) (by omega)) d_La_law_815 ?_
      refine lv_topi (fun x306 _ => ?_)
      refine lv_aload_n hx hb d_La_law_816 rfl (lv_at hl 3 rfl) ?_
      refine va_calli (vx_runSW (As := [.ref (aw_r ad 0), .int x306, .ref (aw_o ad)]) (rest := []) ⟨hx, hb, hml, hown, hG⟩ (k_La_tagJ l hst D g ad G G F N0 x306 hSh.2.2.2.2.1) (aw_wW 3 hG gw_9_2 gw_9_0 gw_0_0 gw_9_1 rfl rfl hd_La_tag ⟨Nat.le_of_ble_eq_true rfl, Nat.le_of_ble_eq_true rfl⟩) (aw_qS hP hD hSh hU hS) rfl rfl hl.1 rfl (lv_room (Nat.le_of_ble_eq_true rfl)) d_La_law_817 ⟨by omega, by omega⟩) hS (fun _ _ h => h) (fun _ h => h) (fun x307 u8 t8 H locs ht _ _ hB _ _ hS => ?_)
      obtain ⟨L, hP, hD, hSh⟩ := hB
      rw [ht] at hP
      clear ht
      refine lv_istore hx hb d_La_law_820 hl (by decide) rfl (fun ls hl => ?_)
      have hl : lv_has ls 8 [(5, .int x307), (0, .ref b), (1, .ref (aw_r ad 0)), (2, .ref (aw_m ad 0)), (3, .ref (aw_o ad)), (4, .int (nI (6 * t)))] := hl
      refine lv_aload_n hx hb d_La_law_822 rfl (lv_at hl 3 rfl) ?_
      refine lv_aload_n hx hb d_La_law_823 rfl (lv_at hl 1 rfl) ?_
      refine lv_iload hx hb d_La_law_824 (lv_at hl 5 rfl) ?_
      refine lv_iconst (v := nI 1) hx hb d_La_law_826 (by decide +kernel) ?_
      refine lv_iadd hx hb d_La_law_827 ?_
      refine aw_ti (nI_add (6 * t) 1) ?_
      refine va_sld hx hb hX hbl hbA hS (i := (nI ((6 * t) + 1))) (vp_in_nI (by omega) (by omega)) d_La_law_828 ?_
      refine lv_topi (fun x308 _ => ?_)
      obtain ⟨_, _, _, he309⟩ := rd_M0 hSh
      refine va_calll (va_runV (As := [.int x308]) (rest := []) ⟨hx, hb, hml, hown, hG⟩ (k_Mo_tagJ l D g ad G G F N0 x308 hSh.2.2.2.2.2) (aw_wV 1 hG gw_12_56 gw_12_53 gw_0_10 gw_12_54 gw_12_55 rfl rfl hd_Mo_tag ⟨Nat.le_of_ble_eq_true rfl, Nat.le_of_ble_eq_true rfl⟩) (aw_qV (va_recv hK hP rfl he309) hP hD hSh hU hS) rfl rfl hl.1 rfl (lv_room (Nat.le_of_ble_eq_true rfl)) d_La_law_829 ⟨by omega, by omega⟩) hS (fun _ _ h => h) (fun _ h => h) (fun y310 u8 t8 H locs ht _ _ hB _ _ hS => ?_)
      obtain ⟨F311, L, hP, hD, hSh⟩ := hB
      rw [ht] at hP
      clear ht
      refine lv_lstore hx hb d_La_law_832 hl (by decide) rfl (fun ls hl => ?_)
      have hl : lv_has ls 8 [(6, .long y310), (5, .int x307), (0, .ref b), (1, .ref (aw_r ad 0)), (2, .ref (aw_m ad 0)), (3, .ref (aw_o ad)), (4, .int (nI (6 * t)))] := hl
      refine lv_goto (tgt := 837) hx hb d_La_law_834 (by decide) ?_
      refine lv_iinc (k := 6) (v := nI (6 * t + 6)) hx hb d_La_law_837 hl rfl (aw_inc (6 * t) 6 6 (by decide +kernel)) (by decide) rfl (fun ls hl => ?_)
      have hl : lv_has ls 8 [(4, .int (nI (6 * t + 6))), (6, .long y310), (5, .int x307), (0, .ref b), (1, .ref (aw_r ad 0)), (2, .ref (aw_m ad 0)), (3, .ref (aw_o ad))] := hl
      refine lv_goto (tgt := 23) hx hb d_La_law_840 (by decide) ?_
      have hl := lv_sub hl (l' := [(0, .ref b), (1, .ref (aw_r ad 0)), (2, .ref (aw_m ad 0)), (3, .ref (aw_o ad)), (4, .int (nI (6 * t + 6)))]) [3, 4, 5, 6, 0] rfl
      refine W.widen (k := 85 + (t + 1)) (n := 1246 + 6 * (t + 1)) (by omega) (by omega) ?_
      exact ih (t + 1) G F311 _ _ L ls (by omega) hP hD hSh hS (by first | exact hl | simpa [Nat.mul_add] using hl)
    · refine aw_ti (y := nI 13) (by rw [hs3]) ?_
      refine lv_tableOut (tgt := 837) hx hb d_La_law_40 (by decide +kernel) (by decide) ?_
      refine lv_iinc (k := 4) (v := nI (6 * t + 6)) hx hb d_La_law_837 hl rfl (aw_inc (6 * t) 6 6 (by decide +kernel)) (by decide) rfl (fun ls hl => ?_)
      have hl : lv_has ls 8 [(4, .int (nI (6 * t + 6))), (0, .ref b), (1, .ref (aw_r ad 0)), (2, .ref (aw_m ad 0)), (3, .ref (aw_o ad))] := hl
      refine lv_goto (tgt := 23) hx hb d_La_law_840 (by decide) ?_
      have hl := lv_sub hl (l' := [(0, .ref b), (1, .ref (aw_r ad 0)), (2, .ref (aw_m ad 0)), (3, .ref (aw_o ad)), (4, .int (nI (6 * t + 6)))]) [1, 2, 3, 4, 0] rfl
      refine W.widen (k := 85 + (t + 1)) (n := 1246 + 6 * (t + 1)) (by omega) (by omega) ?_
      exact ih (t + 1) G F _ _ L ls (by omega) hP hD hSh hS (by first | exact hl | simpa [Nat.mul_add] using hl)
    · refine aw_ti (y := nI 14) (by rw [hs3]) ?_
      refine lv_tableOut (tgt := 837) hx hb d_La_law_40 (by decide +kernel) (by decide) ?_
      refine lv_iinc (k := 4) (v := nI (6 * t + 6)) hx hb d_La_law_837 hl rfl (aw_inc (6 * t) 6 6 (by decide +kernel)) (by decide) rfl (fun ls hl => ?_)
      have hl : lv_has ls 8 [(4, .int (nI (6 * t + 6))), (0, .ref b), (1, .ref (aw_r ad 0)), (2, .ref (aw_m ad 0)), (3, .ref (aw_o ad))] := hl
      refine lv_goto (tgt := 23) hx hb d_La_law_840 (by decide) ?_
      have hl := lv_sub hl (l' := [(0, .ref b), (1, .ref (aw_r ad 0)), (2, .ref (aw_m ad 0)), (3, .ref (aw_o ad)), (4, .int (nI (6 * t + 6)))]) [1, 2, 3, 4, 0] rfl
      refine W.widen (k := 85 + (t + 1)) (n := 1246 + 6 * (t + 1)) (by omega) (by omega) ?_
      exact ih (t + 1) G F _ _ L ls (by omega) hP hD hSh hS (by first | exact hl | simpa [Nat.mul_add] using hl)
    · refine aw_ti (y := nI 15) (by rw [hs3]) ?_
      refine lv_tableOut (tgt := 837) hx hb d_La_law_40 (by decide +kernel) (by decide) ?_
      refine lv_iinc (k := 4) (v := nI (6 * t + 6)) hx hb d_La_law_837 hl rfl (aw_inc (6 * t) 6 6 (by decide +kernel)) (by decide) rfl (fun ls hl => ?_)
      have hl : lv_has ls 8 [(4, .int (nI (6 * t + 6))), (0, .ref b), (1, .ref (aw_r ad 0)), (2, .ref (aw_m ad 0)), (3, .ref (aw_o ad))] := hl
      refine lv_goto (tgt := 23) hx hb d_La_law_840 (by decide) ?_
      have hl := lv_sub hl (l' := [(0, .ref b), (1, .ref (aw_r ad 0)), (2, .ref (aw_m ad 0)), (3, .ref (aw_o ad)), (4, .int (nI (6 * t + 6)))]) [1, 2, 3, 4, 0] rfl
      refine W.widen (k := 85 + (t + 1)) (n := 1246 + 6 * (t + 1)) (by omega) (by omega) ?_
      exact ih (t + 1) G F _ _ L ls (by omega) hP hD hSh hS (by first | exact hl | simpa [Nat.mul_add] using hl)
