abbrev ws_Mo_prepareZero : List Cond := Cond.code y_Mo_prepareZero b_Mo_prepareZero 7 none :: aw_G
abbrev rm_Mo_prepareZero : Room := { frames := 2, cells := 0, slots := 0, locals := 45 }
set_option maxHeartbeats 4000000 in
set_option maxRecDepth 100000 in
theorem k_Mo_prepareZero (l : Launch) (D : va_G) (g : Nat → ClassId) (ad : Nat → Nat) (G M : Nat → Nat × Nat) (F : Int32) (N0 : Nat) (j : Nat) (hj : j < 4) : Met l y_Mo_prepareZero ws_Mo_prepareZero rm_Mo_prepareZero (va_Pc ([.ref (aw_m ad 0), .int (nI j)] : List Value) (aw_B D g ad G M F N0)) (va_Qv (fun (_ : Unit) => True) (fun (_ : Unit) t => aw_H D g ad G M F N0 t.heap) (aw_Z N0)) 0 0 (aw_Z N0) := by
  refine Met.ofW (cc := b_Mo_prepareZero) (maxL := 7) (ret := none) (by decide) rfl ?_
  intro p e s m args below meth c s₁ B hml hv
  obtain ⟨rfl, ⟨L, hP, hD, hSh⟩, hU⟩ := hv
  have hx := B.exec
  have hb := B.bytes
  have hr := B.returns
  have hG : ∀ w ∈ aw_G, w.before _ s = true := fun w h => atoms_spec (ws := ws_Mo_prepareZero) B.pre w (List.mem_cons_of_mem _ h)
  have hown : s.vm.findClass "RuleCiphersModel" = some m.cls := findClass_of_methodNamed B.named
  have hlocks := B.notSynchronized
  have hE := hU.1
  have hK := hE.1
  have hN := hE.2.1
  have hS : va_S (aw_Z N0) s.heap s.heap [] := va_S.rf
  have hl := lv_entry ([.ref (aw_m ad 0), .int (nI j)] : List Value) (n := 7) (Nat.le_of_ble_eq_true rfl)
  rw [lg_entry_eq]
  generalize (lg_sl ([.ref (aw_m ad 0), .int (nI j)] : List Value) ++ List.replicate (7 - (lg_sl ([.ref (aw_m ad 0), .int (nI j)] : List Value)).length) Slot.unset).toArray = ls at hl ⊢
  have hl : lv_has ls 7 [(0, .ref (aw_m ad 0)), (1, .int (nI j))] := hl
  refine lv_aload_n hx hb d_Mo_prepareZero_0 rfl (lv_at hl 0 rfl) ?_
  refine lv_bipush (v := nI 26) hx hb d_Mo_prepareZero_1 (by decide +kernel) ?_
  obtain ⟨x2, o3, hw4, he1⟩ := rd_M0 hSh
  refine aw_put (v := .int (nI 26)) (ty := .int) (C := R_Mo) (T := T_Mo) (N := 19) hx hb hG in_Mo t_Mo t_Mo_ok n_Mo hown hK hP hD hS 67 he1 rfl 16 (by decide) (hG _ gw_9_41) (fun _ h => h) rfl (by decide +kernel) rfl rfl (Nat.le_of_ble_eq_true rfl) d_Mo_prepareZero_3 (wr_M0 hSh x2 26 (by omega)) (fun H locs L hP hD hSh hS => ?_)
  refine lv_aload_n hx hb d_Mo_prepareZero_6 rfl (lv_at hl 0 rfl) ?_
  obtain ⟨x6, o7, hw8, he5⟩ := rd_M0 hSh
  refine va_get (C := R_Mo) (T := T_Mo) (N := 19) (v := .ref (aw_m ad 15)) hx hb hG in_Mo hown hK hP 67 he5 rfl 17 (by decide) (hG _ gw_9_42) (fun _ h => h) rfl d_Mo_prepareZero_7 ?_
  refine lv_iconst (v := nI 0) hx hb d_Mo_prepareZero_10 (by decide +kernel) ?_
  refine lv_ldc (v := (-1209970333)) hx hb hown (hG _ gw_11_10) d_Mo_prepareZero_11 ?_
  obtain ⟨f10, he9⟩ := rd_M15 hSh
  refine aw_istI hx hb hK hP hD hS 82 0 he9 rfl (k := 0) (by omega) (by decide) d_Mo_prepareZero_13 (wr_M15 hSh _) (fun H locs L hP hD hSh hS => ?_)
  refine lv_iconst (v := nI 1) hx hb d_Mo_prepareZero_14 (by decide +kernel) ?_
  refine lv_istore_n hx hb d_Mo_prepareZero_15 rfl hl (by decide) rfl (fun ls hl => ?_)
  have hl : lv_has ls 7 [(2, .int (nI 1)), (0, .ref (aw_m ad 0)), (1, .int (nI j))] := hl
  have L16 : ∀ (d t : Nat)  (H : Heap) (locs : List Loc) (L : va_W) (ls : Array Slot), t + d = 25 → va_P D aw_C L H → va_D (aw_Z N0) L → aw_Sh g ad G M F L → va_S (aw_Z N0) s.heap H locs → lv_has ls 7 [(0, .ref (aw_m ad 0)), (1, .int (nI j)), (2, .int (nI (1 + t)))] → W p l e (headSpec ws_Mo_prepareZero rm_Mo_prepareZero).room s m ([.ref (aw_m ad 0), .int (nI j)] : List Value).toArray below meth c H locs 0 0 (MQ below (va_Qv (fun (_ : Unit) => True) (fun (_ : Unit) t => aw_H D g ad G M F N0 t.heap) (aw_Z N0)) ([.ref (aw_m ad 0), .int (nI j)] : List Value).toArray s 0 0 (aw_Z N0)) (F0 m 16 ls []) := by
    clear hP hD hSh hS
    clear hl
    intro d
    induction d with
    | zero => 
      intro t  H locs L ls ht0 hP hD hSh hS hl
      refine lv_iload_n hx hb d_Mo_prepareZero_16 rfl (lv_at hl 2 rfl) ?_
      refine lv_bipush (v := nI 26) hx hb d_Mo_prepareZero_17 (by decide +kernel) ?_
      refine lv_icmp_ge (tgt := 45) hx hb d_Mo_prepareZero_19 (by decide) (fun _ => ?_) (fun h => absurd (show nI 26 ≤ nI (1 + t) from (nI_leI (by omega) (by omega)).mpr (by omega)) h)
      refine lv_iconst (v := nI 0) hx hb d_Mo_prepareZero_45 (by decide +kernel) ?_
      refine lv_istore_n hx hb d_Mo_prepareZero_46 rfl hl (by decide) rfl (fun ls hl => ?_)
      have hl : lv_has ls 7 [(2, .int (nI 0)), (0, .ref (aw_m ad 0)), (1, .int (nI j))] := hl
      have L47 : ∀ (d t : Nat)  (H : Heap) (locs : List Loc) (L : va_W) (ls : Array Slot), t + d = 4 → va_P D aw_C L H → va_D (aw_Z N0) L → aw_Sh g ad G M F L → va_S (aw_Z N0) s.heap H locs → lv_has ls 7 [(0, .ref (aw_m ad 0)), (1, .int (nI j)), (2, .int (nI t))] → W p l e (headSpec ws_Mo_prepareZero rm_Mo_prepareZero).room s m ([.ref (aw_m ad 0), .int (nI j)] : List Value).toArray below meth c H locs 0 0 (MQ below (va_Qv (fun (_ : Unit) => True) (fun (_ : Unit) t => aw_H D g ad G M F N0 t.heap) (aw_Z N0)) ([.ref (aw_m ad 0), .int (nI j)] : List Value).toArray s 0 0 (aw_Z N0)) (F0 m 47 ls []) := by
        clear hP hD hSh hS
        clear hl
        intro d
        induction d with
        | zero => 
          intro t  H locs L ls ht0 hP hD hSh hS hl
          refine lv_iload_n hx hb d_Mo_prepareZero_47 rfl (lv_at hl 2 rfl) ?_
          refine lv_iconst (v := nI 4) hx hb d_Mo_prepareZero_48 (by decide +kernel) ?_
          refine lv_icmp_ge (tgt := 73) hx hb d_Mo_prepareZero_49 (by decide) (fun _ => ?_) (fun h => absurd (show nI 4 ≤ nI t from (nI_leI (by omega) (by omega)).mpr (by omega)) h)
          refine lv_iconst (v := nI 0) hx hb d_Mo_prepareZero_73 (by decide +kernel) ?_
          refine lv_istore_n hx hb d_Mo_prepareZero_74 rfl hl (by decide) rfl (fun ls hl => ?_)
          have hl : lv_has ls 7 [(2, .int (nI 0)), (0, .ref (aw_m ad 0)), (1, .int (nI j))] := hl
          refine lv_iconst (v := nI 0) hx hb d_Mo_prepareZero_75 (by decide +kernel) ?_
          refine lv_istore_n hx hb d_Mo_prepareZero_76 rfl hl (by decide) rfl (fun ls hl => ?_)
          have hl : lv_has ls 7 [(3, .int (nI 0)), (2, .int (nI 0)), (0, .ref (aw_m ad 0)), (1, .int (nI j))] := hl
          refine lv_iconst (v := nI 0) hx hb d_Mo_prepareZero_77 (by decide +kernel) ?_
          refine lv_istore hx hb d_Mo_prepareZero_78 hl (by decide) rfl (fun ls hl => ?_)
          have hl : lv_has ls 7 [(4, .int (nI 0)), (3, .int (nI 0)), (2, .int (nI 0)), (0, .ref (aw_m ad 0)), (1, .int (nI j))] := hl
          have L80 : ∀ (d t : Nat) (x11 : Int32) (x12 : Int32) (H : Heap) (locs : List Loc) (L : va_W) (ls : Array Slot), t + d = 78 → va_P D aw_C L H → va_D (aw_Z N0) L → aw_Sh g ad G M F L → va_S (aw_Z N0) s.heap H locs → lv_has ls 7 [(0, .ref (aw_m ad 0)), (1, .int (nI j)), (2, .int x11), (3, .int x12), (4, .int (nI t))] → W p l e (headSpec ws_Mo_prepareZero rm_Mo_prepareZero).room s m ([.ref (aw_m ad 0), .int (nI j)] : List Value).toArray below meth c H locs 0 0 (MQ below (va_Qv (fun (_ : Unit) => True) (fun (_ : Unit) t => aw_H D g ad G M F N0 t.heap) (aw_Z N0)) ([.ref (aw_m ad 0), .int (nI j)] : List Value).toArray s 0 0 (aw_Z N0)) (F0 m 80 ls []) := by
            clear hP hD hSh hS
            clear hl
            intro d
            induction d with
            | zero => 
              intro t x11 x12 H locs L ls ht0 hP hD hSh hS hl
              refine lv_iload hx hb d_Mo_prepareZero_80 (lv_at hl 4 rfl) ?_
              refine lv_bipush (v := nI 78) hx hb d_Mo_prepareZero_82 (by decide +kernel) ?_
              refine lv_icmp_ge (tgt := 168) hx hb d_Mo_prepareZero_84 (by decide) (fun _ => ?_) (fun h => absurd (show nI 78 ≤ nI t from (nI_leI (by omega) (by omega)).mpr (by omega)) h)
              exact W.vret hx hb hr (fun t ht hW => ⟨⟨(), rfl, trivial, aw_Hr ht hP hD hSh⟩, hS.F ht⟩) hS.2.2 d_Mo_prepareZero_168
            | succ d ih => 
              intro t x11 x12 H locs L ls ht0 hP hD hSh hS hl
              refine lv_iload hx hb d_Mo_prepareZero_80 (lv_at hl 4 rfl) ?_
              refine lv_bipush (v := nI 78) hx hb d_Mo_prepareZero_82 (by decide +kernel) ?_
              refine lv_icmp_ge (tgt := 168) hx hb d_Mo_prepareZero_84 (by decide) (fun h => absurd h (show ¬ nI 78 ≤ nI t from fun h9 => absurd ((nI_leI (by omega) (by omega)).mp h9) (by omega))) (fun _ => ?_)
              refine lv_iload hx hb d_Mo_prepareZero_87 (lv_at hl 4 rfl) ?_
              refine lv_bipush (v := nI 26) hx hb d_Mo_prepareZero_89 (by decide +kernel) ?_
              refine lv_irem hx hb d_Mo_prepareZero_91 (by decide +kernel) ?_
              refine aw_ti (pk_rem (a := t) (d := 26) (by omega) (by omega) (by omega)) ?_
              refine lv_istore hx hb d_Mo_prepareZero_92 hl (by decide) rfl (fun ls hl => ?_)
              have hl : lv_has ls 7 [(5, .int (nI (t % 26))), (0, .ref (aw_m ad 0)), (1, .int (nI j)), (2, .int x11), (3, .int x12), (4, .int (nI t))] := hl
              refine lv_iload hx hb d_Mo_prepareZero_94 (lv_at hl 5 rfl) ?_
              refine lv_iconst (v := nI 4) hx hb d_Mo_prepareZero_96 (by decide +kernel) ?_
              refine lv_irem hx hb d_Mo_prepareZero_97 (by decide +kernel) ?_
              refine aw_ti (pk_rem (a := t) (d := 4) (by omega) (by omega) (by omega)) ?_
              refine lv_istore hx hb d_Mo_prepareZero_98 hl (by decide) rfl (fun ls hl => ?_)
              have hl : lv_has ls 7 [(6, .int (nI (t % 4))), (5, .int (nI (t % 26))), (0, .ref (aw_m ad 0)), (1, .int (nI j)), (2, .int x11), (3, .int x12), (4, .int (nI t))] := hl
              refine lv_aload_n hx hb d_Mo_prepareZero_100 rfl (lv_at hl 2 rfl) ?_
              obtain ⟨x14, o15, hw16, he13⟩ := rd_M0 hSh
              refine va_get (C := R_Mo) (T := T_Mo) (N := 19) (v := .ref (aw_m ad 15)) hx hb hG in_Mo hown hK hP 67 he13 rfl 17 (by decide) (hG _ gw_9_42) (fun _ h => h) rfl d_Mo_prepareZero_101 ?_
              refine lv_iload hx hb d_Mo_prepareZero_104 (lv_at hl 1 rfl) ?_
              refine lv_aload_n hx hb d_Mo_prepareZero_106 rfl (lv_at hl 2 rfl) ?_
              obtain ⟨x18, o19, hw20, he17⟩ := rd_M0 hSh
              refine va_get (C := R_Mo) (T := T_Mo) (N := 19) (v := .ref (aw_m ad 15)) hx hb hG in_Mo hown hK hP 67 he17 rfl 17 (by decide) (hG _ gw_9_42) (fun _ h => h) rfl d_Mo_prepareZero_107 ?_
              refine lv_iload hx hb d_Mo_prepareZero_110 (lv_at hl 1 rfl) ?_
              obtain ⟨f22, he21⟩ := rd_M15 hSh
              refine aw_ild hx hb hK hP 82 0 he21 rfl (k := (t % 26)) (by omega) (by decide) d_Mo_prepareZero_112 ?_
              refine lv_topi (fun x23 _ => ?_)
              refine lv_iload_n hx hb d_Mo_prepareZero_113 rfl (lv_at hl 4 rfl) ?_
              refine lv_iadd hx hb d_Mo_prepareZero_114 ?_
              refine lv_topi (fun x24 _ => ?_)
              refine lv_iload_n hx hb d_Mo_prepareZero_115 rfl (lv_at hl 5 rfl) ?_
              refine lv_iadd hx hb d_Mo_prepareZero_116 ?_
              refine lv_topi (fun x25 _ => ?_)
              refine lv_iconst (v := nI 3) hx hb d_Mo_prepareZero_117 (by decide +kernel) ?_
              refine aw_ci ((va_runS (As := [.int x25, .int (nI 3)]) (rest := [.int (nI (t % 26)), .ref (aw_m ad 15)]) ⟨hx, hb, hml, hown, hG⟩ (k_Mo_turn l x25 (nI 3)) (aw_wS 2 hG gw_11_24 gw_11_22 gw_0_10 gw_11_23 rfl rfl hd_Mo_turn ⟨Nat.le_of_ble_eq_true rfl, Nat.le_of_ble_eq_true rfl⟩) aw_p0 rfl rfl hl.1 rfl (lv_room (Nat.le_of_ble_eq_true rfl)) d_Mo_prepareZero_118 ⟨Nat.le_of_ble_eq_true rfl, Nat.le_of_ble_eq_true rfl⟩).run) (fun x26 hx26 => ?_)
              obtain ⟨f28, he27⟩ := rd_M15 hSh
              refine aw_istI hx hb hK hP hD hS 82 0 he27 rfl (k := (t % 26)) (by omega) (by decide) d_Mo_prepareZero_121 (wr_M15 hSh _) (fun H locs L hP hD hSh hS => ?_)
              refine lv_aload_n hx hb d_Mo_prepareZero_122 rfl (lv_at hl 2 rfl) ?_
              obtain ⟨x30, o31, hw32, he29⟩ := rd_M0 hSh
              refine va_get (C := R_Mo) (T := T_Mo) (N := 19) (v := .ref (aw_m ad 15)) hx hb hG in_Mo hown hK hP 67 he29 rfl 17 (by decide) (hG _ gw_9_42) (fun _ h => h) rfl d_Mo_prepareZero_123 ?_
              refine lv_iload hx hb d_Mo_prepareZero_126 (lv_at hl 1 rfl) ?_
              obtain ⟨f34, he33⟩ := rd_M15 hSh
              refine aw_ild hx hb hK hP 82 0 he33 rfl (k := (t % 26)) (by omega) (by decide) d_Mo_prepareZero_128 ?_
              refine lv_topi (fun x35 _ => ?_)
              refine lv_istore_n hx hb d_Mo_prepareZero_129 rfl hl (by decide) rfl (fun ls hl => ?_)
              have hl : lv_has ls 7 [(2, .int x35), (6, .int (nI (t % 4))), (5, .int (nI (t % 26))), (0, .ref (aw_m ad 0)), (1, .int (nI j)), (3, .int x12), (4, .int (nI t))] := hl
              refine lv_aload_n hx hb d_Mo_prepareZero_130 rfl (lv_at hl 3 rfl) ?_
              obtain ⟨x37, o38, hw39, he36⟩ := rd_M0 hSh
              refine va_get (C := R_Mo) (T := T_Mo) (N := 19) (v := .ref (aw_m ad 16)) hx hb hG in_Mo hown hK hP 67 he36 rfl 18 (by decide) (hG _ gw_9_43) (fun _ h => h) rfl d_Mo_prepareZero_131 ?_
              refine lv_iload hx hb d_Mo_prepareZero_134 (lv_at hl 1 rfl) ?_
              refine lv_aload_n hx hb d_Mo_prepareZero_136 rfl (lv_at hl 3 rfl) ?_
              obtain ⟨x41, o42, hw43, he40⟩ := rd_M0 hSh
              refine va_get (C := R_Mo) (T := T_Mo) (N := 19) (v := .ref (aw_m ad 16)) hx hb hG in_Mo hown hK hP 67 he40 rfl 18 (by decide) (hG _ gw_9_43) (fun _ h => h) rfl d_Mo_prepareZero_137 ?_
              refine lv_iload hx hb d_Mo_prepareZero_140 (lv_at hl 1 rfl) ?_
              obtain ⟨f45, he44⟩ := rd_M16 hSh
              refine aw_ild hx hb hK hP 83 0 he44 rfl (k := (t % 4)) (by omega) (by decide) d_Mo_prepareZero_142 ?_
              refine lv_topi (fun x46 _ => ?_)
              refine lv_iload_n hx hb d_Mo_prepareZero_143 rfl (lv_at hl 0 rfl) ?_
              refine lv_iadd hx hb d_Mo_prepareZero_144 ?_
              refine lv_topi (fun x47 _ => ?_)
              refine lv_iload_n hx hb d_Mo_prepareZero_145 rfl (lv_at hl 5 rfl) ?_
              refine lv_iadd hx hb d_Mo_prepareZero_146 ?_
              refine lv_topi (fun x48 _ => ?_)
              refine lv_iload_n hx hb d_Mo_prepareZero_147 rfl (lv_at hl 0 rfl) ?_
              refine lv_iload_n hx hb d_Mo_prepareZero_148 rfl (lv_at hl 5 rfl) ?_
              refine lv_iadd hx hb d_Mo_prepareZero_149 ?_
              refine lv_topi (fun x49 _ => ?_)
              refine aw_ci ((va_runS (As := [.int x48, .int x49]) (rest := [.int (nI (t % 4)), .ref (aw_m ad 16)]) ⟨hx, hb, hml, hown, hG⟩ (k_Mo_turn l x48 x49) (aw_wS 2 hG gw_11_24 gw_11_22 gw_0_10 gw_11_23 rfl rfl hd_Mo_turn ⟨Nat.le_of_ble_eq_true rfl, Nat.le_of_ble_eq_true rfl⟩) aw_p0 rfl rfl hl.1 rfl (lv_room (Nat.le_of_ble_eq_true rfl)) d_Mo_prepareZero_150 ⟨Nat.le_of_ble_eq_true rfl, Nat.le_of_ble_eq_true rfl⟩).run) (fun x50 hx50 => ?_)
              obtain ⟨f52, he51⟩ := rd_M16 hSh
              refine aw_istI hx hb hK hP hD hS 83 0 he51 rfl (k := (t % 4)) (by omega) (by decide) d_Mo_prepareZero_153 (wr_M16 hSh _) (fun H locs L hP hD hSh hS => ?_)
              refine lv_aload_n hx hb d_Mo_prepareZero_154 rfl (lv_at hl 3 rfl) ?_
              obtain ⟨x54, o55, hw56, he53⟩ := rd_M0 hSh
              refine va_get (C := R_Mo) (T := T_Mo) (N := 19) (v := .ref (aw_m ad 16)) hx hb hG in_Mo hown hK hP 67 he53 rfl 18 (by decide) (hG _ gw_9_43) (fun _ h => h) rfl d_Mo_prepareZero_155 ?_
              refine lv_iload hx hb d_Mo_prepareZero_158 (lv_at hl 1 rfl) ?_
              obtain ⟨f58, he57⟩ := rd_M16 hSh
              refine aw_ild hx hb hK hP 83 0 he57 rfl (k := (t % 4)) (by omega) (by decide) d_Mo_prepareZero_160 ?_
              refine lv_topi (fun x59 _ => ?_)
              refine lv_istore_n hx hb d_Mo_prepareZero_161 rfl hl (by decide) rfl (fun ls hl => ?_)
              have hl : lv_has ls 7 [(3, .int x59), (2, .int x35), (6, .int (nI (t % 4))), (5, .int (nI (t % 26))), (0, .ref (aw_m ad 0)), (1, .int (nI j)), (4, .int (nI t))] := hl
              refine lv_iinc (k := 6) (v := nI (t + 1)) hx hb d_Mo_prepareZero_162 hl rfl (aw_inc t 1 1 (by decide +kernel)) (by decide) rfl (fun ls hl => ?_)
              have hl : lv_has ls 7 [(4, .int (nI (t + 1))), (3, .int x59), (2, .int x35), (6, .int (nI (t % 4))), (5, .int (nI (t % 26))), (0, .ref (aw_m ad 0)), (1, .int (nI j))] := hl
              refine lv_goto (tgt := 80) hx hb d_Mo_prepareZero_165 (by decide) ?_
              have hl := lv_sub hl (l' := [(0, .ref (aw_m ad 0)), (1, .int (nI j)), (2, .int x35), (3, .int x59), (4, .int (nI (t + 1)))]) [5, 6, 2, 1, 0] rfl
              exact ih (t + 1) x35 x59 H locs L ls (by omega) hP hD hSh hS (by first | exact hl | simpa [Nat.add_assoc, Nat.mul_add, Nat.add_comm] using hl)
          have hl := lv_sub hl (l' := [(0, .ref (aw_m ad 0)), (1, .int (nI j)), (2, .int (nI 0)), (3, .int (nI 0)), (4, .int (nI 0))]) [3, 4, 2, 1, 0] rfl
          exact L80 78 0 (nI 0) (nI 0) _ _ _ ls (by omega) hP hD hSh hS (by first | exact hl | simpa using hl)
        | succ d ih => 
          intro t  H locs L ls ht0 hP hD hSh hS hl
          refine lv_iload_n hx hb d_Mo_prepareZero_47 rfl (lv_at hl 2 rfl) ?_
          refine lv_iconst (v := nI 4) hx hb d_Mo_prepareZero_48 (by decide +kernel) ?_
          refine lv_icmp_ge (tgt := 73) hx hb d_Mo_prepareZero_49 (by decide) (fun h => absurd h (show ¬ nI 4 ≤ nI t from fun h9 => absurd ((nI_leI (by omega) (by omega)).mp h9) (by omega))) (fun _ => ?_)
          refine lv_aload_n hx hb d_Mo_prepareZero_52 rfl (lv_at hl 0 rfl) ?_
          obtain ⟨x61, o62, hw63, he60⟩ := rd_M0 hSh
          refine va_get (C := R_Mo) (T := T_Mo) (N := 19) (v := .ref (aw_m ad 16)) hx hb hG in_Mo hown hK hP 67 he60 rfl 18 (by decide) (hG _ gw_9_43) (fun _ h => h) rfl d_Mo_prepareZero_53 ?_
          refine lv_iload_n hx hb d_Mo_prepareZero_56 rfl (lv_at hl 2 rfl) ?_
          refine lv_aload_n hx hb d_Mo_prepareZero_57 rfl (lv_at hl 0 rfl) ?_
          refine lv_iload_n hx hb d_Mo_prepareZero_58 rfl (lv_at hl 1 rfl) ?_
          refine lv_iload_n hx hb d_Mo_prepareZero_59 rfl (lv_at hl 2 rfl) ?_
          obtain ⟨_, _, _, he64⟩ := rd_M0 hSh
          refine va_calli (va_runV (As := [.int (nI j), .int (nI t)]) (rest := [.int (nI t), .ref (aw_m ad 16)]) ⟨hx, hb, hml, hown, hG⟩ (k_Mo_quarter l D g ad G M F N0 j (nI t) hj) (aw_wV 2 hG gw_11_14 gw_11_12 gw_0_10 gw_11_13 gw_p_14 rfl rfl hd_Mo_quarter ⟨Nat.le_of_ble_eq_true rfl, Nat.le_of_ble_eq_true rfl⟩) (aw_qV (va_recv hK hP rfl he64) hP hD hSh hU hS) rfl rfl hl.1 rfl (lv_room (Nat.le_of_ble_eq_true rfl)) d_Mo_prepareZero_60 ⟨Nat.le_of_ble_eq_true rfl, Nat.le_of_ble_eq_true rfl⟩) hS (fun _ _ h => h) (fun _ h => h) (fun x65 u8 t8 H locs ht _ _ hB _ _ hS => ?_)
          obtain ⟨L, hP, hD, hSh⟩ := hB
          rw [ht] at hP
          clear ht
          refine aw_ci ((va_runS (As := [.int x65]) (rest := [.int (nI t), .ref (aw_m ad 16)]) ⟨hx, hb, hml, hown, hG⟩ (k_Mo_swapped l x65) (aw_wS 1 hG gw_11_20 gw_11_18 gw_0_10 gw_11_19 rfl rfl hd_Mo_swapped ⟨Nat.le_of_ble_eq_true rfl, Nat.le_of_ble_eq_true rfl⟩) aw_p0 rfl rfl hl.1 rfl (lv_room (Nat.le_of_ble_eq_true rfl)) d_Mo_prepareZero_63 ⟨Nat.le_of_ble_eq_true rfl, Nat.le_of_ble_eq_true rfl⟩).run) (fun x66 hx66 => ?_)
          obtain ⟨f68, he67⟩ := rd_M16 hSh
          refine aw_istI hx hb hK hP hD hS 83 0 he67 rfl (k := t) (by omega) (by decide) d_Mo_prepareZero_66 (wr_M16 hSh _) (fun H locs L hP hD hSh hS => ?_)
          refine lv_iinc (k := 2) (v := nI (t + 1)) hx hb d_Mo_prepareZero_67 hl rfl (aw_inc t 1 1 (by decide +kernel)) (by decide) rfl (fun ls hl => ?_)
          have hl : lv_has ls 7 [(2, .int (nI (t + 1))), (0, .ref (aw_m ad 0)), (1, .int (nI j))] := hl
          refine lv_goto (tgt := 47) hx hb d_Mo_prepareZero_70 (by decide) ?_
          have hl := lv_sub hl (l' := [(0, .ref (aw_m ad 0)), (1, .int (nI j)), (2, .int (nI (t + 1)))]) [1, 2, 0] rfl
          exact ih (t + 1)  H locs L ls (by omega) hP hD hSh hS (by first | exact hl | simpa [Nat.add_assoc, Nat.mul_add, Nat.add_comm] using hl)
      have hl := lv_sub hl (l' := [(0, .ref (aw_m ad 0)), (1, .int (nI j)), (2, .int (nI 0))]) [1, 2, 0] rfl
      exact L47 4 0  _ _ _ ls (by omega) hP hD hSh hS (by first | exact hl | simpa using hl)
    | succ d ih => 
      intro t  H locs L ls ht0 hP hD hSh hS hl
      refine lv_iload_n hx hb d_Mo_prepareZero_16 rfl (lv_at hl 2 rfl) ?_
      refine lv_bipush (v := nI 26) hx hb d_Mo_prepareZero_17 (by decide +kernel) ?_
      refine lv_icmp_ge (tgt := 45) hx hb d_Mo_prepareZero_19 (by decide) (fun h => absurd h (show ¬ nI 26 ≤ nI (1 + t) from fun h9 => absurd ((nI_leI (by omega) (by omega)).mp h9) (by omega))) (fun _ => ?_)
      refine lv_aload_n hx hb d_Mo_prepareZero_22 rfl (lv_at hl 0 rfl) ?_
      obtain ⟨x70, o71, hw72, he69⟩ := rd_M0 hSh
      refine va_get (C := R_Mo) (T := T_Mo) (N := 19) (v := .ref (aw_m ad 15)) hx hb hG in_Mo hown hK hP 67 he69 rfl 17 (by decide) (hG _ gw_9_42) (fun _ h => h) rfl d_Mo_prepareZero_23 ?_
      refine lv_iload_n hx hb d_Mo_prepareZero_26 rfl (lv_at hl 2 rfl) ?_
      refine lv_aload_n hx hb d_Mo_prepareZero_27 rfl (lv_at hl 0 rfl) ?_
      obtain ⟨x74, o75, hw76, he73⟩ := rd_M0 hSh
      refine va_get (C := R_Mo) (T := T_Mo) (N := 19) (v := .ref (aw_m ad 15)) hx hb hG in_Mo hown hK hP 67 he73 rfl 17 (by decide) (hG _ gw_9_42) (fun _ h => h) rfl d_Mo_prepareZero_28 ?_
      refine lv_iload_n hx hb d_Mo_prepareZero_31 rfl (lv_at hl 2 rfl) ?_
      refine lv_iconst (v := nI 1) hx hb d_Mo_prepareZero_32 (by decide +kernel) ?_
      refine lv_isub hx hb d_Mo_prepareZero_33 ?_
      refine aw_ti (pk_sub (a := (1 + t)) (b := 1) (by omega)) ?_
      obtain ⟨f78, he77⟩ := rd_M15 hSh
      refine aw_ild hx hb hK hP 82 0 he77 rfl (k := ((1 + t) - 1)) (by omega) (by decide) d_Mo_prepareZero_34 ?_
      refine lv_topi (fun x79 _ => ?_)
      refine lv_ldc (v := (-1640531527)) hx hb hown (hG _ gw_11_11) d_Mo_prepareZero_35 ?_
      refine lv_iadd hx hb d_Mo_prepareZero_37 ?_
      refine lv_topi (fun x80 _ => ?_)
      obtain ⟨f82, he81⟩ := rd_M15 hSh
      refine aw_istI hx hb hK hP hD hS 82 0 he81 rfl (k := (1 + t)) (by omega) (by decide) d_Mo_prepareZero_38 (wr_M15 hSh _) (fun H locs L hP hD hSh hS => ?_)
      refine lv_iinc (k := 2) (v := nI (1 + t + 1)) hx hb d_Mo_prepareZero_39 hl rfl (aw_inc (1 + t) 1 1 (by decide +kernel)) (by decide) rfl (fun ls hl => ?_)
      have hl : lv_has ls 7 [(2, .int (nI (1 + t + 1))), (0, .ref (aw_m ad 0)), (1, .int (nI j))] := hl
      refine lv_goto (tgt := 16) hx hb d_Mo_prepareZero_42 (by decide) ?_
      have hl := lv_sub hl (l' := [(0, .ref (aw_m ad 0)), (1, .int (nI j)), (2, .int (nI (1 + t + 1)))]) [1, 2, 0] rfl
      exact ih (t + 1)  H locs L ls (by omega) hP hD hSh hS (by first | exact hl | simpa [Nat.add_assoc, Nat.mul_add, Nat.add_comm] using hl)
  have hl := lv_sub hl (l' := [(0, .ref (aw_m ad 0)), (1, .int (nI j)), (2, .int (nI 1))]) [1, 2, 0] rfl
  exact L16 25 0  _ _ _ ls (by omega) hP hD hSh hS (by first | exact hl | simpa using hl)
abbrev ws_Mo_prepareFour : List Cond := Cond.code y_Mo_prepareFour b_Mo_prepareFour 9 none :: aw_G
abbrev rm_Mo_prepareFour : Room := { frames := 0, cells := 0, slots := 0, locals := 0 }
set_option maxHeartbeats 4000000 in
set_option maxRecDepth 100000 in
theorem k_Mo_prepareFour (l : Launch) (D : va_G) (g : Nat → ClassId) (ad : Nat → Nat) (G M : Nat → Nat × Nat) (F : Int32) (N0 : Nat) (j : Nat) (hj : j < 4) : Met l y_Mo_prepareFour ws_Mo_prepareFour rm_Mo_prepareFour (va_Pc ([.ref (aw_m ad 0), .int (nI j)] : List Value) (aw_B D g ad G M F N0)) (va_Qv (fun (_ : Unit) => True) (fun (_ : Unit) t => aw_H D g ad G M F N0 t.heap) (aw_Z N0)) 0 0 (aw_Z N0) := by
  refine Met.ofW (cc := b_Mo_prepareFour) (maxL := 9) (ret := none) (by decide) rfl ?_
  intro p e s m args below meth c s₁ B hml hv
  obtain ⟨rfl, ⟨L, hP, hD, hSh⟩, hU⟩ := hv
  have hx := B.exec
  have hb := B.bytes
  have hr := B.returns
  have hG : ∀ w ∈ aw_G, w.before _ s = true := fun w h => atoms_spec (ws := ws_Mo_prepareFour) B.pre w (List.mem_cons_of_mem _ h)
  have hown : s.vm.findClass "RuleCiphersModel" = some m.cls := findClass_of_methodNamed B.named
  have hlocks := B.notSynchronized
  have hE := hU.1
  have hK := hE.1
  have hN := hE.2.1
  have hS : va_S (aw_Z N0) s.heap s.heap [] := va_S.rf
  have hl := lv_entry ([.ref (aw_m ad 0), .int (nI j)] : List Value) (n := 9) (Nat.le_of_ble_eq_true rfl)
  rw [lg_entry_eq]
  generalize (lg_sl ([.ref (aw_m ad 0), .int (nI j)] : List Value) ++ List.replicate (9 - (lg_sl ([.ref (aw_m ad 0), .int (nI j)] : List Value)).length) Slot.unset).toArray = ls at hl ⊢
  have hl : lv_has ls 9 [(0, .ref (aw_m ad 0)), (1, .int (nI j))] := hl
  refine lv_aload_n hx hb d_Mo_prepareFour_0 rfl (lv_at hl 0 rfl) ?_
  obtain ⟨x2, o3, hw4, he1⟩ := rd_M0 hSh
  refine va_get (C := R_Mo) (T := T_Mo) (N := 19) (v := .ref (aw_m ad 4)) hx hb hG in_Mo hown hK hP 67 he1 rfl 4 (by decide) (hG _ gw_9_29) (fun _ h => h) rfl d_Mo_prepareFour_1 ?_
  refine lv_iload_n hx hb d_Mo_prepareFour_4 rfl (lv_at hl 1 rfl) ?_
  obtain ⟨f6, he5⟩ := rd_M4 hSh
  refine aw_lld hx hb hK hP 71 1 he5 rfl (k := j) (by omega) (by decide) d_Mo_prepareFour_5 ?_
  refine lv_topl (fun y7 _ => ?_)
  refine lv_lstore_n hx hb d_Mo_prepareFour_6 rfl hl (by decide) rfl (fun ls hl => ?_)
  have hl : lv_has ls 9 [(2, .long y7), (0, .ref (aw_m ad 0)), (1, .int (nI j))] := hl
  refine lv_aload_n hx hb d_Mo_prepareFour_7 rfl (lv_at hl 1 rfl) ?_
  obtain ⟨x9, o10, hw11, he8⟩ := rd_M0 hSh
  refine va_get (C := R_Mo) (T := T_Mo) (N := 19) (v := .ref (aw_m ad 5)) hx hb hG in_Mo hown hK hP 67 he8 rfl 5 (by decide) (hG _ gw_9_30) (fun _ h => h) rfl d_Mo_prepareFour_8 ?_
  refine lv_iload_n hx hb d_Mo_prepareFour_11 rfl (lv_at hl 2 rfl) ?_
  obtain ⟨f13, he12⟩ := rd_M5 hSh
  refine aw_lld hx hb hK hP 72 1 he12 rfl (k := j) (by omega) (by decide) d_Mo_prepareFour_12 ?_
  refine lv_topl (fun y14 _ => ?_)
  refine lv_lstore hx hb d_Mo_prepareFour_13 hl (by decide) rfl (fun ls hl => ?_)
  have hl : lv_has ls 9 [(4, .long y14), (2, .long y7), (0, .ref (aw_m ad 0)), (1, .int (nI j))] := hl
  refine lv_iconst (v := nI 0) hx hb d_Mo_prepareFour_15 (by decide +kernel) ?_
  refine lv_istore hx hb d_Mo_prepareFour_16 hl (by decide) rfl (fun ls hl => ?_)
  have hl : lv_has ls 9 [(6, .int (nI 0)), (4, .long y14), (2, .long y7), (0, .ref (aw_m ad 0)), (1, .int (nI j))] := hl
  have L18 : ∀ (d t : Nat) (y15 : Int64) (y16 : Int64) (H : Heap) (locs : List Loc) (L : va_W) (ls : Array Slot), t + d = 52 → va_P D aw_C L H → va_D (aw_Z N0) L → aw_Sh g ad G M F L → va_S (aw_Z N0) s.heap H locs → lv_has ls 9 [(0, .ref (aw_m ad 0)), (1, .int (nI j)), (2, .long y15), (4, .long y16), (6, .int (nI t))] → W p l e (headSpec ws_Mo_prepareFour rm_Mo_prepareFour).room s m ([.ref (aw_m ad 0), .int (nI j)] : List Value).toArray below meth c H locs 0 0 (MQ below (va_Qv (fun (_ : Unit) => True) (fun (_ : Unit) t => aw_H D g ad G M F N0 t.heap) (aw_Z N0)) ([.ref (aw_m ad 0), .int (nI j)] : List Value).toArray s 0 0 (aw_Z N0)) (F0 m 18 ls []) := by
    clear hP hD hSh hS
    clear hl
    intro d
    induction d with
    | zero => 
      intro t y15 y16 H locs L ls ht0 hP hD hSh hS hl
      refine lv_iload hx hb d_Mo_prepareFour_18 (lv_at hl 4 rfl) ?_
      refine lv_bipush (v := nI 52) hx hb d_Mo_prepareFour_20 (by decide +kernel) ?_
      refine lv_icmp_ge (tgt := 112) hx hb d_Mo_prepareFour_22 (by decide) (fun _ => ?_) (fun h => absurd (show nI 52 ≤ nI t from (nI_leI (by omega) (by omega)).mpr (by omega)) h)
      exact W.vret hx hb hr (fun t ht hW => ⟨⟨(), rfl, trivial, aw_Hr ht hP hD hSh⟩, hS.F ht⟩) hS.2.2 d_Mo_prepareFour_112
    | succ d ih => 
      intro t y15 y16 H locs L ls ht0 hP hD hSh hS hl
      refine lv_iload hx hb d_Mo_prepareFour_18 (lv_at hl 4 rfl) ?_
      refine lv_bipush (v := nI 52) hx hb d_Mo_prepareFour_20 (by decide +kernel) ?_
      refine lv_icmp_ge (tgt := 112) hx hb d_Mo_prepareFour_22 (by decide) (fun h => absurd h (show ¬ nI 52 ≤ nI t from fun h9 => absurd ((nI_leI (by omega) (by omega)).mp h9) (by omega))) (fun _ => ?_)
      refine lv_iload hx hb d_Mo_prepareFour_25 (lv_at hl 4 rfl) ?_
      refine lv_if_le (tgt := 65) hx hb d_Mo_prepareFour_27 (by decide) (fun hb17 => ?_) (fun hb17 => ?_)
      · have hb17 : t ≤ 0 := (nI_leI (by omega) (by omega)).mp (show nI t ≤ nI 0 from hb17)
        refine lv_iload hx hb d_Mo_prepareFour_65 (lv_at hl 4 rfl) ?_
        refine lv_bipush (v := nI 8) hx hb d_Mo_prepareFour_67 (by decide +kernel) ?_
        refine lv_irem hx hb d_Mo_prepareFour_69 (by decide +kernel) ?_
        refine aw_ti (pk_rem (a := t) (d := 8) (by omega) (by omega) (by omega)) ?_
        refine lv_iconst (v := nI 4) hx hb d_Mo_prepareFour_70 (by decide +kernel) ?_
        refine lv_icmp_ge (tgt := 78) hx hb d_Mo_prepareFour_71 (by decide) (fun hb18 => ?_) (fun hb18 => ?_)
        · have hb18 : 4 ≤ t % 8 := (nI_leI (by omega) (by omega)).mp hb18
          refine lv_lload hx hb d_Mo_prepareFour_78 (lv_at hl 3 rfl) ?_
          refine lv_lstore hx hb d_Mo_prepareFour_80 hl (by decide) rfl (fun ls hl => ?_)
          have hl : lv_has ls 9 [(7, .long y16), (0, .ref (aw_m ad 0)), (1, .int (nI j)), (2, .long y15), (4, .long y16), (6, .int (nI t))] := hl
          refine lv_aload_n hx hb d_Mo_prepareFour_82 rfl (lv_at hl 1 rfl) ?_
          obtain ⟨x20, o21, hw22, he19⟩ := rd_M0 hSh
          refine va_get (C := R_Mo) (T := T_Mo) (N := 19) (v := .ref (aw_m ad 15)) hx hb hG in_Mo hown hK hP 67 he19 rfl 17 (by decide) (hG _ gw_9_42) (fun _ h => h) rfl d_Mo_prepareFour_83 ?_
          refine lv_iload hx hb d_Mo_prepareFour_86 (lv_at hl 5 rfl) ?_
          refine lv_lload hx hb d_Mo_prepareFour_88 (lv_at hl 0 rfl) ?_
          refine lv_bipush (v := nI 48) hx hb d_Mo_prepareFour_90 (by decide +kernel) ?_
          refine lv_bipush (v := nI 16) hx hb d_Mo_prepareFour_92 (by decide +kernel) ?_
          refine lv_iload hx hb d_Mo_prepareFour_94 (lv_at hl 5 rfl) ?_
          refine lv_iconst (v := nI 4) hx hb d_Mo_prepareFour_96 (by decide +kernel) ?_
          refine lv_irem hx hb d_Mo_prepareFour_97 (by decide +kernel) ?_
          refine aw_ti (pk_rem (a := t) (d := 4) (by omega) (by omega) (by omega)) ?_
          refine lv_imul hx hb d_Mo_prepareFour_98 ?_
          refine aw_ti (pk_mul 16 (t % 4)) ?_
          refine lv_isub hx hb d_Mo_prepareFour_99 ?_
          refine aw_ti (pk_sub (a := 48) (b := (16 * (t % 4))) (by omega)) ?_
          refine lv_lushr hx hb d_Mo_prepareFour_100 rfl ?_
          refine lv_topl (fun y23 _ => ?_)
          refine lv_l2i hx hb d_Mo_prepareFour_101 rfl ?_
          refine lv_topi (fun x24 _ => ?_)
          refine lv_ldc (v := 65535) hx hb hown (hG _ gw_11_36) d_Mo_prepareFour_102 ?_
          refine lv_iand hx hb d_Mo_prepareFour_104 ?_
          refine lv_topi (fun x25 _ => ?_)
          obtain ⟨f27, he26⟩ := rd_M15 hSh
          refine aw_istI hx hb hK hP hD hS 82 0 he26 rfl (k := t) (by omega) (by decide) d_Mo_prepareFour_105 (wr_M15 hSh _) (fun H locs L hP hD hSh hS => ?_)
          refine lv_iinc (k := 5) (v := nI (t + 1)) hx hb d_Mo_prepareFour_106 hl rfl (aw_inc t 1 1 (by decide +kernel)) (by decide) rfl (fun ls hl => ?_)
          have hl : lv_has ls 9 [(6, .int (nI (t + 1))), (7, .long y16), (0, .ref (aw_m ad 0)), (1, .int (nI j)), (2, .long y15), (4, .long y16)] := hl
          refine lv_goto (tgt := 18) hx hb d_Mo_prepareFour_109 (by decide) ?_
          have hl := lv_sub hl (l' := [(0, .ref (aw_m ad 0)), (1, .int (nI j)), (2, .long y15), (4, .long y16), (6, .int (nI (t + 1)))]) [2, 3, 4, 5, 0] rfl
          exact ih (t + 1) y15 y16 H locs L ls (by omega) hP hD hSh hS (by first | exact hl | simpa [Nat.add_assoc, Nat.mul_add, Nat.add_comm] using hl)
        · have hb18 : ¬ 4 ≤ t % 8 := fun z => absurd ((nI_leI (by omega) (by omega)).mpr z) hb18
          refine lv_lload_n hx hb d_Mo_prepareFour_74 rfl (lv_at hl 2 rfl) ?_
          refine lv_goto (tgt := 80) hx hb d_Mo_prepareFour_75 (by decide) ?_
          refine lv_lstore hx hb d_Mo_prepareFour_80 hl (by decide) rfl (fun ls hl => ?_)
          have hl : lv_has ls 9 [(7, .long y15), (0, .ref (aw_m ad 0)), (1, .int (nI j)), (2, .long y15), (4, .long y16), (6, .int (nI t))] := hl
          refine lv_aload_n hx hb d_Mo_prepareFour_82 rfl (lv_at hl 1 rfl) ?_
          obtain ⟨x29, o30, hw31, he28⟩ := rd_M0 hSh
          refine va_get (C := R_Mo) (T := T_Mo) (N := 19) (v := .ref (aw_m ad 15)) hx hb hG in_Mo hown hK hP 67 he28 rfl 17 (by decide) (hG _ gw_9_42) (fun _ h => h) rfl d_Mo_prepareFour_83 ?_
          refine lv_iload hx hb d_Mo_prepareFour_86 (lv_at hl 5 rfl) ?_
          refine lv_lload hx hb d_Mo_prepareFour_88 (lv_at hl 0 rfl) ?_
          refine lv_bipush (v := nI 48) hx hb d_Mo_prepareFour_90 (by decide +kernel) ?_
          refine lv_bipush (v := nI 16) hx hb d_Mo_prepareFour_92 (by decide +kernel) ?_
          refine lv_iload hx hb d_Mo_prepareFour_94 (lv_at hl 5 rfl) ?_
          refine lv_iconst (v := nI 4) hx hb d_Mo_prepareFour_96 (by decide +kernel) ?_
          refine lv_irem hx hb d_Mo_prepareFour_97 (by decide +kernel) ?_
          refine aw_ti (pk_rem (a := t) (d := 4) (by omega) (by omega) (by omega)) ?_
          refine lv_imul hx hb d_Mo_prepareFour_98 ?_
          refine aw_ti (pk_mul 16 (t % 4)) ?_
          refine lv_isub hx hb d_Mo_prepareFour_99 ?_
          refine aw_ti (pk_sub (a := 48) (b := (16 * (t % 4))) (by omega)) ?_
          refine lv_lushr hx hb d_Mo_prepareFour_100 rfl ?_
          refine lv_topl (fun y32 _ => ?_)
          refine lv_l2i hx hb d_Mo_prepareFour_101 rfl ?_
          refine lv_topi (fun x33 _ => ?_)
          refine lv_ldc (v := 65535) hx hb hown (hG _ gw_11_36) d_Mo_prepareFour_102 ?_
          refine lv_iand hx hb d_Mo_prepareFour_104 ?_
          refine lv_topi (fun x34 _ => ?_)
          obtain ⟨f36, he35⟩ := rd_M15 hSh
          refine aw_istI hx hb hK hP hD hS 82 0 he35 rfl (k := t) (by omega) (by decide) d_Mo_prepareFour_105 (wr_M15 hSh _) (fun H locs L hP hD hSh hS => ?_)
          refine lv_iinc (k := 5) (v := nI (t + 1)) hx hb d_Mo_prepareFour_106 hl rfl (aw_inc t 1 1 (by decide +kernel)) (by decide) rfl (fun ls hl => ?_)
          have hl : lv_has ls 9 [(6, .int (nI (t + 1))), (7, .long y15), (0, .ref (aw_m ad 0)), (1, .int (nI j)), (2, .long y15), (4, .long y16)] := hl
          refine lv_goto (tgt := 18) hx hb d_Mo_prepareFour_109 (by decide) ?_
          have hl := lv_sub hl (l' := [(0, .ref (aw_m ad 0)), (1, .int (nI j)), (2, .long y15), (4, .long y16), (6, .int (nI (t + 1)))]) [2, 3, 4, 5, 0] rfl
          exact ih (t + 1) y15 y16 H locs L ls (by omega) hP hD hSh hS (by first | exact hl | simpa [Nat.add_assoc, Nat.mul_add, Nat.add_comm] using hl)
      · have hb17 : ¬ t ≤ 0 := fun z => absurd ((nI_leI (by omega) (by omega)).mpr z) (show ¬ nI t ≤ nI 0 from hb17)
        refine lv_iload hx hb d_Mo_prepareFour_30 (lv_at hl 4 rfl) ?_
        refine lv_bipush (v := nI 8) hx hb d_Mo_prepareFour_32 (by decide +kernel) ?_
        refine lv_irem hx hb d_Mo_prepareFour_34 (by decide +kernel) ?_
        refine aw_ti (pk_rem (a := t) (d := 8) (by omega) (by omega) (by omega)) ?_
        refine lv_if_ne (tgt := 65) hx hb d_Mo_prepareFour_35 (by decide) (fun hb37 => ?_) (fun hb37 => ?_)
        · have hb37 : ¬ t % 8 = 0 := fun z => absurd ((nI_eq (by omega) (by omega)).mpr z) (show ¬ nI (t % 8) = nI 0 from hb37)
          refine lv_iload hx hb d_Mo_prepareFour_65 (lv_at hl 4 rfl) ?_
          refine lv_bipush (v := nI 8) hx hb d_Mo_prepareFour_67 (by decide +kernel) ?_
          refine lv_irem hx hb d_Mo_prepareFour_69 (by decide +kernel) ?_
          refine aw_ti (pk_rem (a := t) (d := 8) (by omega) (by omega) (by omega)) ?_
          refine lv_iconst (v := nI 4) hx hb d_Mo_prepareFour_70 (by decide +kernel) ?_
          refine lv_icmp_ge (tgt := 78) hx hb d_Mo_prepareFour_71 (by decide) (fun hb38 => ?_) (fun hb38 => ?_)
          · have hb38 : 4 ≤ t % 8 := (nI_leI (by omega) (by omega)).mp hb38
            refine lv_lload hx hb d_Mo_prepareFour_78 (lv_at hl 3 rfl) ?_
            refine lv_lstore hx hb d_Mo_prepareFour_80 hl (by decide) rfl (fun ls hl => ?_)
            have hl : lv_has ls 9 [(7, .long y16), (0, .ref (aw_m ad 0)), (1, .int (nI j)), (2, .long y15), (4, .long y16), (6, .int (nI t))] := hl
            refine lv_aload_n hx hb d_Mo_prepareFour_82 rfl (lv_at hl 1 rfl) ?_
            obtain ⟨x40, o41, hw42, he39⟩ := rd_M0 hSh
            refine va_get (C := R_Mo) (T := T_Mo) (N := 19) (v := .ref (aw_m ad 15)) hx hb hG in_Mo hown hK hP 67 he39 rfl 17 (by decide) (hG _ gw_9_42) (fun _ h => h) rfl d_Mo_prepareFour_83 ?_
            refine lv_iload hx hb d_Mo_prepareFour_86 (lv_at hl 5 rfl) ?_
            refine lv_lload hx hb d_Mo_prepareFour_88 (lv_at hl 0 rfl) ?_
            refine lv_bipush (v := nI 48) hx hb d_Mo_prepareFour_90 (by decide +kernel) ?_
            refine lv_bipush (v := nI 16) hx hb d_Mo_prepareFour_92 (by decide +kernel) ?_
            refine lv_iload hx hb d_Mo_prepareFour_94 (lv_at hl 5 rfl) ?_
            refine lv_iconst (v := nI 4) hx hb d_Mo_prepareFour_96 (by decide +kernel) ?_
            refine lv_irem hx hb d_Mo_prepareFour_97 (by decide +kernel) ?_
            refine aw_ti (pk_rem (a := t) (d := 4) (by omega) (by omega) (by omega)) ?_
            refine lv_imul hx hb d_Mo_prepareFour_98 ?_
            refine aw_ti (pk_mul 16 (t % 4)) ?_
            refine lv_isub hx hb d_Mo_prepareFour_99 ?_
            refine aw_ti (pk_sub (a := 48) (b := (16 * (t % 4))) (by omega)) ?_
            refine lv_lushr hx hb d_Mo_prepareFour_100 rfl ?_
            refine lv_topl (fun y43 _ => ?_)
            refine lv_l2i hx hb d_Mo_prepareFour_101 rfl ?_
            refine lv_topi (fun x44 _ => ?_)
            refine lv_ldc (v := 65535) hx hb hown (hG _ gw_11_36) d_Mo_prepareFour_102 ?_
            refine lv_iand hx hb d_Mo_prepareFour_104 ?_
            refine lv_topi (fun x45 _ => ?_)
            obtain ⟨f47, he46⟩ := rd_M15 hSh
            refine aw_istI hx hb hK hP hD hS 82 0 he46 rfl (k := t) (by omega) (by decide) d_Mo_prepareFour_105 (wr_M15 hSh _) (fun H locs L hP hD hSh hS => ?_)
            refine lv_iinc (k := 5) (v := nI (t + 1)) hx hb d_Mo_prepareFour_106 hl rfl (aw_inc t 1 1 (by decide +kernel)) (by decide) rfl (fun ls hl => ?_)
            have hl : lv_has ls 9 [(6, .int (nI (t + 1))), (7, .long y16), (0, .ref (aw_m ad 0)), (1, .int (nI j)), (2, .long y15), (4, .long y16)] := hl
            refine lv_goto (tgt := 18) hx hb d_Mo_prepareFour_109 (by decide) ?_
            have hl := lv_sub hl (l' := [(0, .ref (aw_m ad 0)), (1, .int (nI j)), (2, .long y15), (4, .long y16), (6, .int (nI (t + 1)))]) [2, 3, 4, 5, 0] rfl
            exact ih (t + 1) y15 y16 H locs L ls (by omega) hP hD hSh hS (by first | exact hl | simpa [Nat.add_assoc, Nat.mul_add, Nat.add_comm] using hl)
          · have hb38 : ¬ 4 ≤ t % 8 := fun z => absurd ((nI_leI (by omega) (by omega)).mpr z) hb38
            refine lv_lload_n hx hb d_Mo_prepareFour_74 rfl (lv_at hl 2 rfl) ?_
            refine lv_goto (tgt := 80) hx hb d_Mo_prepareFour_75 (by decide) ?_
            refine lv_lstore hx hb d_Mo_prepareFour_80 hl (by decide) rfl (fun ls hl => ?_)
            have hl : lv_has ls 9 [(7, .long y15), (0, .ref (aw_m ad 0)), (1, .int (nI j)), (2, .long y15), (4, .long y16), (6, .int (nI t))] := hl
            refine lv_aload_n hx hb d_Mo_prepareFour_82 rfl (lv_at hl 1 rfl) ?_
            obtain ⟨x49, o50, hw51, he48⟩ := rd_M0 hSh
            refine va_get (C := R_Mo) (T := T_Mo) (N := 19) (v := .ref (aw_m ad 15)) hx hb hG in_Mo hown hK hP 67 he48 rfl 17 (by decide) (hG _ gw_9_42) (fun _ h => h) rfl d_Mo_prepareFour_83 ?_
            refine lv_iload hx hb d_Mo_prepareFour_86 (lv_at hl 5 rfl) ?_
            refine lv_lload hx hb d_Mo_prepareFour_88 (lv_at hl 0 rfl) ?_
            refine lv_bipush (v := nI 48) hx hb d_Mo_prepareFour_90 (by decide +kernel) ?_
            refine lv_bipush (v := nI 16) hx hb d_Mo_prepareFour_92 (by decide +kernel) ?_
            refine lv_iload hx hb d_Mo_prepareFour_94 (lv_at hl 5 rfl) ?_
            refine lv_iconst (v := nI 4) hx hb d_Mo_prepareFour_96 (by decide +kernel) ?_
            refine lv_irem hx hb d_Mo_prepareFour_97 (by decide +kernel) ?_
            refine aw_ti (pk_rem (a := t) (d := 4) (by omega) (by omega) (by omega)) ?_
            refine lv_imul hx hb d_Mo_prepareFour_98 ?_
            refine aw_ti (pk_mul 16 (t % 4)) ?_
            refine lv_isub hx hb d_Mo_prepareFour_99 ?_
            refine aw_ti (pk_sub (a := 48) (b := (16 * (t % 4))) (by omega)) ?_
            refine lv_lushr hx hb d_Mo_prepareFour_100 rfl ?_
            refine lv_topl (fun y52 _ => ?_)
            refine lv_l2i hx hb d_Mo_prepareFour_101 rfl ?_
            refine lv_topi (fun x53 _ => ?_)
            refine lv_ldc (v := 65535) hx hb hown (hG _ gw_11_36) d_Mo_prepareFour_102 ?_
            refine lv_iand hx hb d_Mo_prepareFour_104 ?_
            refine lv_topi (fun x54 _ => ?_)
            obtain ⟨f56, he55⟩ := rd_M15 hSh
            refine aw_istI hx hb hK hP hD hS 82 0 he55 rfl (k := t) (by omega) (by decide) d_Mo_prepareFour_105 (wr_M15 hSh _) (fun H locs L hP hD hSh hS => ?_)
            refine lv_iinc (k := 5) (v := nI (t + 1)) hx hb d_Mo_prepareFour_106 hl rfl (aw_inc t 1 1 (by decide +kernel)) (by decide) rfl (fun ls hl => ?_)
            have hl : lv_has ls 9 [(6, .int (nI (t + 1))), (7, .long y15), (0, .ref (aw_m ad 0)), (1, .int (nI j)), (2, .long y15), (4, .long y16)] := hl
            refine lv_goto (tgt := 18) hx hb d_Mo_prepareFour_109 (by decide) ?_
            have hl := lv_sub hl (l' := [(0, .ref (aw_m ad 0)), (1, .int (nI j)), (2, .long y15), (4, .long y16), (6, .int (nI (t + 1)))]) [2, 3, 4, 5, 0] rfl
            exact ih (t + 1) y15 y16 H locs L ls (by omega) hP hD hSh hS (by first | exact hl | simpa [Nat.add_assoc, Nat.mul_add, Nat.add_comm] using hl)
        · have hb37 : t % 8 = 0 := (nI_eq (by omega) (by omega)).mp (show nI (t % 8) = nI 0 from hb37)
          refine lv_lload_n hx hb d_Mo_prepareFour_38 rfl (lv_at hl 2 rfl) ?_
          refine lv_bipush (v := nI 25) hx hb d_Mo_prepareFour_39 (by decide +kernel) ?_
          refine lv_lshl hx hb d_Mo_prepareFour_41 rfl ?_
          refine lv_topl (fun y57 _ => ?_)
          refine lv_lload hx hb d_Mo_prepareFour_42 (lv_at hl 3 rfl) ?_
          refine lv_bipush (v := nI 39) hx hb d_Mo_prepareFour_44 (by decide +kernel) ?_
          refine lv_lushr hx hb d_Mo_prepareFour_46 rfl ?_
          refine lv_topl (fun y58 _ => ?_)
          refine lv_lor hx hb d_Mo_prepareFour_47 ?_
          refine lv_topl (fun y59 _ => ?_)
          refine lv_lstore hx hb d_Mo_prepareFour_48 hl (by decide) rfl (fun ls hl => ?_)
          have hl : lv_has ls 9 [(7, .long y59), (0, .ref (aw_m ad 0)), (1, .int (nI j)), (2, .long y15), (4, .long y16), (6, .int (nI t))] := hl
          refine lv_lload hx hb d_Mo_prepareFour_50 (lv_at hl 4 rfl) ?_
          refine lv_bipush (v := nI 25) hx hb d_Mo_prepareFour_52 (by decide +kernel) ?_
          refine lv_lshl hx hb d_Mo_prepareFour_54 rfl ?_
          refine lv_topl (fun y60 _ => ?_)
          refine lv_lload_n hx hb d_Mo_prepareFour_55 rfl (lv_at hl 3 rfl) ?_
          refine lv_bipush (v := nI 39) hx hb d_Mo_prepareFour_56 (by decide +kernel) ?_
          refine lv_lushr hx hb d_Mo_prepareFour_58 rfl ?_
          refine lv_topl (fun y61 _ => ?_)
          refine lv_lor hx hb d_Mo_prepareFour_59 ?_
          refine lv_topl (fun y62 _ => ?_)
          refine lv_lstore hx hb d_Mo_prepareFour_60 hl (by decide) rfl (fun ls hl => ?_)
          have hl : lv_has ls 9 [(4, .long y62), (7, .long y59), (0, .ref (aw_m ad 0)), (1, .int (nI j)), (2, .long y15), (6, .int (nI t))] := hl
          refine lv_lload hx hb d_Mo_prepareFour_62 (lv_at hl 1 rfl) ?_
          refine lv_lstore_n hx hb d_Mo_prepareFour_64 rfl hl (by decide) rfl (fun ls hl => ?_)
          have hl : lv_has ls 9 [(2, .long y59), (4, .long y62), (7, .long y59), (0, .ref (aw_m ad 0)), (1, .int (nI j)), (6, .int (nI t))] := hl
          refine lv_iload hx hb d_Mo_prepareFour_65 (lv_at hl 5 rfl) ?_
          refine lv_bipush (v := nI 8) hx hb d_Mo_prepareFour_67 (by decide +kernel) ?_
          refine lv_irem hx hb d_Mo_prepareFour_69 (by decide +kernel) ?_
          refine aw_ti (pk_rem (a := t) (d := 8) (by omega) (by omega) (by omega)) ?_
          refine lv_iconst (v := nI 4) hx hb d_Mo_prepareFour_70 (by decide +kernel) ?_
          refine lv_icmp_ge (tgt := 78) hx hb d_Mo_prepareFour_71 (by decide) (fun h => absurd h (show ¬ nI 4 ≤ nI (t % 8) from fun h9 => absurd ((nI_leI (by omega) (by omega)).mp h9) (by omega))) (fun _ => ?_)
          refine lv_lload_n hx hb d_Mo_prepareFour_74 rfl (lv_at hl 0 rfl) ?_
          refine lv_goto (tgt := 80) hx hb d_Mo_prepareFour_75 (by decide) ?_
          refine lv_lstore hx hb d_Mo_prepareFour_80 hl (by decide) rfl (fun ls hl => ?_)
          have hl : lv_has ls 9 [(7, .long y59), (2, .long y59), (4, .long y62), (0, .ref (aw_m ad 0)), (1, .int (nI j)), (6, .int (nI t))] := hl
          refine lv_aload_n hx hb d_Mo_prepareFour_82 rfl (lv_at hl 3 rfl) ?_
          obtain ⟨x64, o65, hw66, he63⟩ := rd_M0 hSh
          refine va_get (C := R_Mo) (T := T_Mo) (N := 19) (v := .ref (aw_m ad 15)) hx hb hG in_Mo hown hK hP 67 he63 rfl 17 (by decide) (hG _ gw_9_42) (fun _ h => h) rfl d_Mo_prepareFour_83 ?_
          refine lv_iload hx hb d_Mo_prepareFour_86 (lv_at hl 5 rfl) ?_
          refine lv_lload hx hb d_Mo_prepareFour_88 (lv_at hl 0 rfl) ?_
          refine lv_bipush (v := nI 48) hx hb d_Mo_prepareFour_90 (by decide +kernel) ?_
          refine lv_bipush (v := nI 16) hx hb d_Mo_prepareFour_92 (by decide +kernel) ?_
          refine lv_iload hx hb d_Mo_prepareFour_94 (lv_at hl 5 rfl) ?_
          refine lv_iconst (v := nI 4) hx hb d_Mo_prepareFour_96 (by decide +kernel) ?_
          refine lv_irem hx hb d_Mo_prepareFour_97 (by decide +kernel) ?_
          refine aw_ti (pk_rem (a := t) (d := 4) (by omega) (by omega) (by omega)) ?_
          refine lv_imul hx hb d_Mo_prepareFour_98 ?_
          refine aw_ti (pk_mul 16 (t % 4)) ?_
          refine lv_isub hx hb d_Mo_prepareFour_99 ?_
          refine aw_ti (pk_sub (a := 48) (b := (16 * (t % 4))) (by omega)) ?_
          refine lv_lushr hx hb d_Mo_prepareFour_100 rfl ?_
          refine lv_topl (fun y67 _ => ?_)
          refine lv_l2i hx hb d_Mo_prepareFour_101 rfl ?_
          refine lv_topi (fun x68 _ => ?_)
          refine lv_ldc (v := 65535) hx hb hown (hG _ gw_11_36) d_Mo_prepareFour_102 ?_
          refine lv_iand hx hb d_Mo_prepareFour_104 ?_
          refine lv_topi (fun x69 _ => ?_)
          obtain ⟨f71, he70⟩ := rd_M15 hSh
          refine aw_istI hx hb hK hP hD hS 82 0 he70 rfl (k := t) (by omega) (by decide) d_Mo_prepareFour_105 (wr_M15 hSh _) (fun H locs L hP hD hSh hS => ?_)
          refine lv_iinc (k := 5) (v := nI (t + 1)) hx hb d_Mo_prepareFour_106 hl rfl (aw_inc t 1 1 (by decide +kernel)) (by decide) rfl (fun ls hl => ?_)
          have hl : lv_has ls 9 [(6, .int (nI (t + 1))), (7, .long y59), (2, .long y59), (4, .long y62), (0, .ref (aw_m ad 0)), (1, .int (nI j))] := hl
          refine lv_goto (tgt := 18) hx hb d_Mo_prepareFour_109 (by decide) ?_
          have hl := lv_sub hl (l' := [(0, .ref (aw_m ad 0)), (1, .int (nI j)), (2, .long y59), (4, .long y62), (6, .int (nI (t + 1)))]) [4, 5, 2, 3, 0] rfl
          exact ih (t + 1) y59 y62 H locs L ls (by omega) hP hD hSh hS (by first | exact hl | simpa [Nat.add_assoc, Nat.mul_add, Nat.add_comm] using hl)
  have hl := lv_sub hl (l' := [(0, .ref (aw_m ad 0)), (1, .int (nI j)), (2, .long y7), (4, .long y14), (6, .int (nI 0))]) [3, 4, 2, 1, 0] rfl
  exact L18 52 0 y7 y14 _ _ _ ls (by omega) hP hD hSh hS (by first | exact hl | simpa using hl)
abbrev ws_Mo_prepare : List Cond := Cond.code y_Mo_prepare b_Mo_prepare 4 none :: aw_G
abbrev rm_Mo_prepare : Room := { frames := 3, cells := 0, slots := 0, locals := 71 }
set_option maxHeartbeats 4000000 in
set_option maxRecDepth 100000 in
theorem k_Mo_prepare (l : Launch) (D : va_G) (g : Nat → ClassId) (ad : Nat → Nat) (G M : Nat → Nat × Nat) (F : Int32) (N0 : Nat) (j : Nat) (hj : j < 4) : Met l y_Mo_prepare ws_Mo_prepare rm_Mo_prepare (va_Pc ([.ref (aw_m ad 0), .int (nI j)] : List Value) (aw_B D g ad G M F N0)) (va_Qv (fun (_ : Unit) => True) (fun (_ : Unit) t => aw_H D g ad G M F N0 t.heap) (aw_Z N0)) 0 0 (aw_Z N0) := by
  refine Met.ofW (cc := b_Mo_prepare) (maxL := 4) (ret := none) (by decide) rfl ?_
  intro p e s m args below meth c s₁ B hml hv
  obtain ⟨rfl, ⟨L, hP, hD, hSh⟩, hU⟩ := hv
  have hx := B.exec
  have hb := B.bytes
  have hr := B.returns
  have hG : ∀ w ∈ aw_G, w.before _ s = true := fun w h => atoms_spec (ws := ws_Mo_prepare) B.pre w (List.mem_cons_of_mem _ h)
  have hown : s.vm.findClass "RuleCiphersModel" = some m.cls := findClass_of_methodNamed B.named
  have hlocks := B.notSynchronized
  have hE := hU.1
  have hK := hE.1
  have hN := hE.2.1
  have hS : va_S (aw_Z N0) s.heap s.heap [] := va_S.rf
  have hl := lv_entry ([.ref (aw_m ad 0), .int (nI j)] : List Value) (n := 4) (Nat.le_of_ble_eq_true rfl)
  rw [lg_entry_eq]
  generalize (lg_sl ([.ref (aw_m ad 0), .int (nI j)] : List Value) ++ List.replicate (4 - (lg_sl ([.ref (aw_m ad 0), .int (nI j)] : List Value)).length) Slot.unset).toArray = ls at hl ⊢
  have hl : lv_has ls 4 [(0, .ref (aw_m ad 0)), (1, .int (nI j))] := hl
  refine lv_aload_n hx hb d_Mo_prepare_0 rfl (lv_at hl 0 rfl) ?_
  refine lv_aload_n hx hb d_Mo_prepare_1 rfl (lv_at hl 0 rfl) ?_
  obtain ⟨x2, o3, hw4, he1⟩ := rd_M0 hSh
  refine va_get (C := R_Mo) (T := T_Mo) (N := 19) (v := .ref (aw_m ad 3)) hx hb hG in_Mo hown hK hP 67 he1 rfl 3 (by decide) (hG _ gw_9_28) (fun _ h => h) rfl d_Mo_prepare_2 ?_
  refine lv_iload_n hx hb d_Mo_prepare_5 rfl (lv_at hl 1 rfl) ?_
  obtain ⟨f6, he5⟩ := rd_M3 hSh
  refine aw_ild hx hb hK hP 70 0 he5 rfl (k := j) (by omega) (by decide) d_Mo_prepare_6 ?_
  refine lv_topi (fun x7 _ => ?_)
  obtain ⟨x9, o10, hw11, he8⟩ := rd_M0 hSh
  refine aw_put (v := .int x7) (ty := .int) (C := R_Mo) (T := T_Mo) (N := 19) hx hb hG in_Mo t_Mo t_Mo_ok n_Mo hown hK hP hD hS 67 he8 rfl 15 (by decide) (hG _ gw_9_40) (fun _ h => h) rfl (by decide +kernel) rfl rfl (Nat.le_of_ble_eq_true rfl) d_Mo_prepare_7 (wr_M0 hSh x7 o10 hw11) (fun H locs L hP hD hSh hS => ?_)
  refine lv_aload_n hx hb d_Mo_prepare_10 rfl (lv_at hl 0 rfl) ?_
  obtain ⟨x13, o14, hw15, he12⟩ := rd_M0 hSh
  refine va_get (C := R_Mo) (T := T_Mo) (N := 19) (v := .int x13) hx hb hG in_Mo hown hK hP 67 he12 rfl 15 (by decide) (hG _ gw_9_40) (fun _ h => h) rfl d_Mo_prepare_11 ?_
  rcases aw_sw x13 (n := 4) (by decide) with hs16 | hs16
  · refine lv_tableOut (tgt := 318) hx hb d_Mo_prepare_14 (by first | exact hs16 | omega) (by decide) ?_
    refine lv_aload_n hx hb d_Mo_prepare_318 rfl (lv_at hl 0 rfl) ?_
    refine lv_bipush (v := nI 52) hx hb d_Mo_prepare_319 (by decide +kernel) ?_
    obtain ⟨x18, o19, hw20, he17⟩ := rd_M0 hSh
    refine aw_put (v := .int (nI 52)) (ty := .int) (C := R_Mo) (T := T_Mo) (N := 19) hx hb hG in_Mo t_Mo t_Mo_ok n_Mo hown hK hP hD hS 67 he17 rfl 16 (by decide) (hG _ gw_9_41) (fun _ h => h) rfl (by decide +kernel) rfl rfl (Nat.le_of_ble_eq_true rfl) d_Mo_prepare_321 (wr_M0 hSh x18 52 (by omega)) (fun H locs L hP hD hSh hS => ?_)
    refine lv_aload_n hx hb d_Mo_prepare_324 rfl (lv_at hl 0 rfl) ?_
    refine lv_iload_n hx hb d_Mo_prepare_325 rfl (lv_at hl 1 rfl) ?_
    obtain ⟨_, _, _, he21⟩ := rd_M0 hSh
    refine va_callv (va_runV (As := [.int (nI j)]) (rest := []) ⟨hx, hb, hml, hown, hG⟩ (k_Mo_prepareFour l D g ad G M F N0 j hj) (aw_wV 1 hG gw_11_35 gw_11_33 gw_0_10 gw_11_34 gw_p_15 rfl rfl hd_Mo_prepareFour ⟨Nat.le_of_ble_eq_true rfl, Nat.le_of_ble_eq_true rfl⟩) (aw_qV (va_recv hK hP rfl he21) hP hD hSh hU hS) rfl rfl hl.1 rfl (lv_room (Nat.le_of_ble_eq_true rfl)) d_Mo_prepare_326 ⟨Nat.le_of_ble_eq_true rfl, Nat.le_of_ble_eq_true rfl⟩) hS (fun _ _ h => h) (fun _ h => h) (fun u8 t8 H locs ht _ _ hB _ _ hS => ?_)
    obtain ⟨L, hP, hD, hSh⟩ := hB
    rw [ht] at hP
    clear ht
    exact W.vret hx hb hr (fun t ht hW => ⟨⟨(), rfl, trivial, aw_Hr ht hP hD hSh⟩, hS.F ht⟩) hS.2.2 d_Mo_prepare_329
  · obtain ⟨k22, hk22, ek22⟩ := hs16
    rcases (by omega : k22 = 0 ∨ k22 = 1 ∨ k22 = 2 ∨ k22 = 3) with hs16 | hs16 | hs16 | hs16
    · refine aw_ti (y := nI 0) (by rw [ek22, hs16]) ?_
      refine lv_tableIn (tgt := 44) (off := 30) hx hb d_Mo_prepare_14 (by decide +kernel) (by decide +kernel) (by decide +kernel) (by decide) ?_
      refine lv_aload_n hx hb d_Mo_prepare_44 rfl (lv_at hl 0 rfl) ?_
      refine lv_iload_n hx hb d_Mo_prepare_45 rfl (lv_at hl 1 rfl) ?_
      obtain ⟨_, _, _, he23⟩ := rd_M0 hSh
      refine va_callv (va_runV (As := [.int (nI j)]) (rest := []) ⟨hx, hb, hml, hown, hG⟩ (k_Mo_prepareZero l D g ad G M F N0 j hj) (aw_wV 1 hG gw_11_9 gw_11_7 gw_0_10 gw_11_8 gw_p_13 rfl rfl hd_Mo_prepareZero ⟨Nat.le_of_ble_eq_true rfl, Nat.le_of_ble_eq_true rfl⟩) (aw_qV (va_recv hK hP rfl he23) hP hD hSh hU hS) rfl rfl hl.1 rfl (lv_room (Nat.le_of_ble_eq_true rfl)) d_Mo_prepare_46 ⟨Nat.le_of_ble_eq_true rfl, Nat.le_of_ble_eq_true rfl⟩) hS (fun _ _ h => h) (fun _ h => h) (fun u8 t8 H locs ht _ _ hB _ _ hS => ?_)
      obtain ⟨L, hP, hD, hSh⟩ := hB
      rw [ht] at hP
      clear ht
      refine lv_goto (tgt := 329) hx hb d_Mo_prepare_49 (by decide) ?_
      exact W.vret hx hb hr (fun t ht hW => ⟨⟨(), rfl, trivial, aw_Hr ht hP hD hSh⟩, hS.F ht⟩) hS.2.2 d_Mo_prepare_329
    · refine aw_ti (y := nI 1) (by rw [ek22, hs16]) ?_
      refine lv_tableIn (tgt := 52) (off := 38) hx hb d_Mo_prepare_14 (by decide +kernel) (by decide +kernel) (by decide +kernel) (by decide) ?_
      refine lv_aload_n hx hb d_Mo_prepare_52 rfl (lv_at hl 0 rfl) ?_
      refine lv_iconst (v := nI 4) hx hb d_Mo_prepare_53 (by decide +kernel) ?_
      obtain ⟨x25, o26, hw27, he24⟩ := rd_M0 hSh
      refine aw_put (v := .int (nI 4)) (ty := .int) (C := R_Mo) (T := T_Mo) (N := 19) hx hb hG in_Mo t_Mo t_Mo_ok n_Mo hown hK hP hD hS 67 he24 rfl 16 (by decide) (hG _ gw_9_41) (fun _ h => h) rfl (by decide +kernel) rfl rfl (Nat.le_of_ble_eq_true rfl) d_Mo_prepare_54 (wr_M0 hSh x25 4 (by omega)) (fun H locs L hP hD hSh hS => ?_)
      refine lv_iconst (v := nI 0) hx hb d_Mo_prepare_57 (by decide +kernel) ?_
      refine lv_istore_n hx hb d_Mo_prepare_58 rfl hl (by decide) rfl (fun ls hl => ?_)
      have hl : lv_has ls 4 [(2, .int (nI 0)), (0, .ref (aw_m ad 0)), (1, .int (nI j))] := hl
      have L59 : ∀ (d t : Nat)  (H : Heap) (locs : List Loc) (L : va_W) (ls : Array Slot), t + d = 4 → va_P D aw_C L H → va_D (aw_Z N0) L → aw_Sh g ad G M F L → va_S (aw_Z N0) s.heap H locs → lv_has ls 4 [(0, .ref (aw_m ad 0)), (1, .int (nI j)), (2, .int (nI t))] → W p l e (headSpec ws_Mo_prepare rm_Mo_prepare).room s m ([.ref (aw_m ad 0), .int (nI j)] : List Value).toArray below meth c H locs 0 0 (MQ below (va_Qv (fun (_ : Unit) => True) (fun (_ : Unit) t => aw_H D g ad G M F N0 t.heap) (aw_Z N0)) ([.ref (aw_m ad 0), .int (nI j)] : List Value).toArray s 0 0 (aw_Z N0)) (F0 m 59 ls []) := by
        clear hP hD hSh hS
        clear hl
        intro d
        induction d with
        | zero => 
          intro t  H locs L ls ht0 hP hD hSh hS hl
          refine lv_iload_n hx hb d_Mo_prepare_59 rfl (lv_at hl 2 rfl) ?_
          refine lv_iconst (v := nI 4) hx hb d_Mo_prepare_60 (by decide +kernel) ?_
          refine lv_icmp_ge (tgt := 82) hx hb d_Mo_prepare_61 (by decide) (fun _ => ?_) (fun h => absurd (show nI 4 ≤ nI t from (nI_leI (by omega) (by omega)).mpr (by omega)) h)
          refine lv_goto (tgt := 329) hx hb d_Mo_prepare_82 (by decide) ?_
          exact W.vret hx hb hr (fun t ht hW => ⟨⟨(), rfl, trivial, aw_Hr ht hP hD hSh⟩, hS.F ht⟩) hS.2.2 d_Mo_prepare_329
        | succ d ih => 
          intro t  H locs L ls ht0 hP hD hSh hS hl
          refine lv_iload_n hx hb d_Mo_prepare_59 rfl (lv_at hl 2 rfl) ?_
          refine lv_iconst (v := nI 4) hx hb d_Mo_prepare_60 (by decide +kernel) ?_
          refine lv_icmp_ge (tgt := 82) hx hb d_Mo_prepare_61 (by decide) (fun h => absurd h (show ¬ nI 4 ≤ nI t from fun h9 => absurd ((nI_leI (by omega) (by omega)).mp h9) (by omega))) (fun _ => ?_)
          refine lv_aload_n hx hb d_Mo_prepare_64 rfl (lv_at hl 0 rfl) ?_
          obtain ⟨x29, o30, hw31, he28⟩ := rd_M0 hSh
          refine va_get (C := R_Mo) (T := T_Mo) (N := 19) (v := .ref (aw_m ad 15)) hx hb hG in_Mo hown hK hP 67 he28 rfl 17 (by decide) (hG _ gw_9_42) (fun _ h => h) rfl d_Mo_prepare_65 ?_
          refine lv_iload_n hx hb d_Mo_prepare_68 rfl (lv_at hl 2 rfl) ?_
          refine lv_aload_n hx hb d_Mo_prepare_69 rfl (lv_at hl 0 rfl) ?_
          refine lv_iload_n hx hb d_Mo_prepare_70 rfl (lv_at hl 1 rfl) ?_
          refine lv_iload_n hx hb d_Mo_prepare_71 rfl (lv_at hl 2 rfl) ?_
          obtain ⟨_, _, _, he32⟩ := rd_M0 hSh
          refine va_calli (va_runV (As := [.int (nI j), .int (nI t)]) (rest := [.int (nI t), .ref (aw_m ad 15)]) ⟨hx, hb, hml, hown, hG⟩ (k_Mo_quarter l D g ad G M F N0 j (nI t) hj) (aw_wV 2 hG gw_11_14 gw_11_12 gw_0_10 gw_11_13 gw_p_14 rfl rfl hd_Mo_quarter ⟨Nat.le_of_ble_eq_true rfl, Nat.le_of_ble_eq_true rfl⟩) (aw_qV (va_recv hK hP rfl he32) hP hD hSh hU hS) rfl rfl hl.1 rfl (lv_room (Nat.le_of_ble_eq_true rfl)) d_Mo_prepare_72 ⟨Nat.le_of_ble_eq_true rfl, Nat.le_of_ble_eq_true rfl⟩) hS (fun _ _ h => h) (fun _ h => h) (fun x33 u8 t8 H locs ht _ _ hB _ _ hS => ?_)
          obtain ⟨L, hP, hD, hSh⟩ := hB
          rw [ht] at hP
          clear ht
          obtain ⟨f35, he34⟩ := rd_M15 hSh
          refine aw_istI hx hb hK hP hD hS 82 0 he34 rfl (k := t) (by omega) (by decide) d_Mo_prepare_75 (wr_M15 hSh _) (fun H locs L hP hD hSh hS => ?_)
          refine lv_iinc (k := 2) (v := nI (t + 1)) hx hb d_Mo_prepare_76 hl rfl (aw_inc t 1 1 (by decide +kernel)) (by decide) rfl (fun ls hl => ?_)
          have hl : lv_has ls 4 [(2, .int (nI (t + 1))), (0, .ref (aw_m ad 0)), (1, .int (nI j))] := hl
          refine lv_goto (tgt := 59) hx hb d_Mo_prepare_79 (by decide) ?_
          have hl := lv_sub hl (l' := [(0, .ref (aw_m ad 0)), (1, .int (nI j)), (2, .int (nI (t + 1)))]) [1, 2, 0] rfl
          exact ih (t + 1)  H locs L ls (by omega) hP hD hSh hS (by first | exact hl | simpa [Nat.add_assoc, Nat.mul_add, Nat.add_comm] using hl)
      have hl := lv_sub hl (l' := [(0, .ref (aw_m ad 0)), (1, .int (nI j)), (2, .int (nI 0))]) [1, 2, 0] rfl
      exact L59 4 0  _ _ _ ls (by omega) hP hD hSh hS (by first | exact hl | simpa using hl)
    · refine aw_ti (y := nI 2) (by rw [ek22, hs16]) ?_
      refine lv_tableIn (tgt := 85) (off := 71) hx hb d_Mo_prepare_14 (by decide +kernel) (by decide +kernel) (by decide +kernel) (by decide) ?_
      refine lv_aload_n hx hb d_Mo_prepare_85 rfl (lv_at hl 0 rfl) ?_
      refine lv_bipush (v := nI 27) hx hb d_Mo_prepare_86 (by decide +kernel) ?_
      obtain ⟨x37, o38, hw39, he36⟩ := rd_M0 hSh
      refine aw_put (v := .int (nI 27)) (ty := .int) (C := R_Mo) (T := T_Mo) (N := 19) hx hb hG in_Mo t_Mo t_Mo_ok n_Mo hown hK hP hD hS 67 he36 rfl 16 (by decide) (hG _ gw_9_41) (fun _ h => h) rfl (by decide +kernel) rfl rfl (Nat.le_of_ble_eq_true rfl) d_Mo_prepare_88 (wr_M0 hSh x37 27 (by omega)) (fun H locs L hP hD hSh hS => ?_)
      refine lv_aload_n hx hb d_Mo_prepare_91 rfl (lv_at hl 0 rfl) ?_
      obtain ⟨x41, o42, hw43, he40⟩ := rd_M0 hSh
      refine va_get (C := R_Mo) (T := T_Mo) (N := 19) (v := .ref (aw_m ad 16)) hx hb hG in_Mo hown hK hP 67 he40 rfl 18 (by decide) (hG _ gw_9_43) (fun _ h => h) rfl d_Mo_prepare_92 ?_
      refine lv_iconst (v := nI 2) hx hb d_Mo_prepare_95 (by decide +kernel) ?_
      refine lv_aload_n hx hb d_Mo_prepare_96 rfl (lv_at hl 0 rfl) ?_
      refine lv_iload_n hx hb d_Mo_prepare_97 rfl (lv_at hl 1 rfl) ?_
      refine lv_iconst (v := nI 0) hx hb d_Mo_prepare_98 (by decide +kernel) ?_
      obtain ⟨_, _, _, he44⟩ := rd_M0 hSh
      refine va_calli (va_runV (As := [.int (nI j), .int (nI 0)]) (rest := [.int (nI 2), .ref (aw_m ad 16)]) ⟨hx, hb, hml, hown, hG⟩ (k_Mo_quarter l D g ad G M F N0 j (nI 0) hj) (aw_wV 2 hG gw_11_14 gw_11_12 gw_0_10 gw_11_13 gw_p_14 rfl rfl hd_Mo_quarter ⟨Nat.le_of_ble_eq_true rfl, Nat.le_of_ble_eq_true rfl⟩) (aw_qV (va_recv hK hP rfl he44) hP hD hSh hU hS) rfl rfl hl.1 rfl (lv_room (Nat.le_of_ble_eq_true rfl)) d_Mo_prepare_99 ⟨Nat.le_of_ble_eq_true rfl, Nat.le_of_ble_eq_true rfl⟩) hS (fun _ _ h => h) (fun _ h => h) (fun x45 u8 t8 H locs ht _ _ hB _ _ hS => ?_)
      obtain ⟨L, hP, hD, hSh⟩ := hB
      rw [ht] at hP
      clear ht
      obtain ⟨f47, he46⟩ := rd_M16 hSh
      refine aw_istI hx hb hK hP hD hS 83 0 he46 rfl (k := 2) (by omega) (by decide) d_Mo_prepare_102 (wr_M16 hSh _) (fun H locs L hP hD hSh hS => ?_)
      refine lv_aload_n hx hb d_Mo_prepare_103 rfl (lv_at hl 0 rfl) ?_
      obtain ⟨x49, o50, hw51, he48⟩ := rd_M0 hSh
      refine va_get (C := R_Mo) (T := T_Mo) (N := 19) (v := .ref (aw_m ad 16)) hx hb hG in_Mo hown hK hP 67 he48 rfl 18 (by decide) (hG _ gw_9_43) (fun _ h => h) rfl d_Mo_prepare_104 ?_
      refine lv_iconst (v := nI 1) hx hb d_Mo_prepare_107 (by decide +kernel) ?_
      refine lv_aload_n hx hb d_Mo_prepare_108 rfl (lv_at hl 0 rfl) ?_
      refine lv_iload_n hx hb d_Mo_prepare_109 rfl (lv_at hl 1 rfl) ?_
      refine lv_iconst (v := nI 1) hx hb d_Mo_prepare_110 (by decide +kernel) ?_
      obtain ⟨_, _, _, he52⟩ := rd_M0 hSh
      refine va_calli (va_runV (As := [.int (nI j), .int (nI 1)]) (rest := [.int (nI 1), .ref (aw_m ad 16)]) ⟨hx, hb, hml, hown, hG⟩ (k_Mo_quarter l D g ad G M F N0 j (nI 1) hj) (aw_wV 2 hG gw_11_14 gw_11_12 gw_0_10 gw_11_13 gw_p_14 rfl rfl hd_Mo_quarter ⟨Nat.le_of_ble_eq_true rfl, Nat.le_of_ble_eq_true rfl⟩) (aw_qV (va_recv hK hP rfl he52) hP hD hSh hU hS) rfl rfl hl.1 rfl (lv_room (Nat.le_of_ble_eq_true rfl)) d_Mo_prepare_111 ⟨Nat.le_of_ble_eq_true rfl, Nat.le_of_ble_eq_true rfl⟩) hS (fun _ _ h => h) (fun _ h => h) (fun x53 u8 t8 H locs ht _ _ hB _ _ hS => ?_)
      obtain ⟨L, hP, hD, hSh⟩ := hB
      rw [ht] at hP
      clear ht
      obtain ⟨f55, he54⟩ := rd_M16 hSh
      refine aw_istI hx hb hK hP hD hS 83 0 he54 rfl (k := 1) (by omega) (by decide) d_Mo_prepare_114 (wr_M16 hSh _) (fun H locs L hP hD hSh hS => ?_)
      refine lv_aload_n hx hb d_Mo_prepare_115 rfl (lv_at hl 0 rfl) ?_
      obtain ⟨x57, o58, hw59, he56⟩ := rd_M0 hSh
      refine va_get (C := R_Mo) (T := T_Mo) (N := 19) (v := .ref (aw_m ad 16)) hx hb hG in_Mo hown hK hP 67 he56 rfl 18 (by decide) (hG _ gw_9_43) (fun _ h => h) rfl d_Mo_prepare_116 ?_
      refine lv_iconst (v := nI 0) hx hb d_Mo_prepare_119 (by decide +kernel) ?_
      refine lv_aload_n hx hb d_Mo_prepare_120 rfl (lv_at hl 0 rfl) ?_
      refine lv_iload_n hx hb d_Mo_prepare_121 rfl (lv_at hl 1 rfl) ?_
      refine lv_iconst (v := nI 2) hx hb d_Mo_prepare_122 (by decide +kernel) ?_
      obtain ⟨_, _, _, he60⟩ := rd_M0 hSh
      refine va_calli (va_runV (As := [.int (nI j), .int (nI 2)]) (rest := [.int (nI 0), .ref (aw_m ad 16)]) ⟨hx, hb, hml, hown, hG⟩ (k_Mo_quarter l D g ad G M F N0 j (nI 2) hj) (aw_wV 2 hG gw_11_14 gw_11_12 gw_0_10 gw_11_13 gw_p_14 rfl rfl hd_Mo_quarter ⟨Nat.le_of_ble_eq_true rfl, Nat.le_of_ble_eq_true rfl⟩) (aw_qV (va_recv hK hP rfl he60) hP hD hSh hU hS) rfl rfl hl.1 rfl (lv_room (Nat.le_of_ble_eq_true rfl)) d_Mo_prepare_123 ⟨Nat.le_of_ble_eq_true rfl, Nat.le_of_ble_eq_true rfl⟩) hS (fun _ _ h => h) (fun _ h => h) (fun x61 u8 t8 H locs ht _ _ hB _ _ hS => ?_)
      obtain ⟨L, hP, hD, hSh⟩ := hB
      rw [ht] at hP
      clear ht
      obtain ⟨f63, he62⟩ := rd_M16 hSh
      refine aw_istI hx hb hK hP hD hS 83 0 he62 rfl (k := 0) (by omega) (by decide) d_Mo_prepare_126 (wr_M16 hSh _) (fun H locs L hP hD hSh hS => ?_)
      refine lv_aload_n hx hb d_Mo_prepare_127 rfl (lv_at hl 0 rfl) ?_
      obtain ⟨x65, o66, hw67, he64⟩ := rd_M0 hSh
      refine va_get (C := R_Mo) (T := T_Mo) (N := 19) (v := .ref (aw_m ad 15)) hx hb hG in_Mo hown hK hP 67 he64 rfl 17 (by decide) (hG _ gw_9_42) (fun _ h => h) rfl d_Mo_prepare_128 ?_
      refine lv_iconst (v := nI 0) hx hb d_Mo_prepare_131 (by decide +kernel) ?_
      refine lv_aload_n hx hb d_Mo_prepare_132 rfl (lv_at hl 0 rfl) ?_
      refine lv_iload_n hx hb d_Mo_prepare_133 rfl (lv_at hl 1 rfl) ?_
      refine lv_iconst (v := nI 3) hx hb d_Mo_prepare_134 (by decide +kernel) ?_
      obtain ⟨_, _, _, he68⟩ := rd_M0 hSh
      refine va_calli (va_runV (As := [.int (nI j), .int (nI 3)]) (rest := [.int (nI 0), .ref (aw_m ad 15)]) ⟨hx, hb, hml, hown, hG⟩ (k_Mo_quarter l D g ad G M F N0 j (nI 3) hj) (aw_wV 2 hG gw_11_14 gw_11_12 gw_0_10 gw_11_13 gw_p_14 rfl rfl hd_Mo_quarter ⟨Nat.le_of_ble_eq_true rfl, Nat.le_of_ble_eq_true rfl⟩) (aw_qV (va_recv hK hP rfl he68) hP hD hSh hU hS) rfl rfl hl.1 rfl (lv_room (Nat.le_of_ble_eq_true rfl)) d_Mo_prepare_135 ⟨Nat.le_of_ble_eq_true rfl, Nat.le_of_ble_eq_true rfl⟩) hS (fun _ _ h => h) (fun _ h => h) (fun x69 u8 t8 H locs ht _ _ hB _ _ hS => ?_)
      obtain ⟨L, hP, hD, hSh⟩ := hB
      rw [ht] at hP
      clear ht
      obtain ⟨f71, he70⟩ := rd_M15 hSh
      refine aw_istI hx hb hK hP hD hS 82 0 he70 rfl (k := 0) (by omega) (by decide) d_Mo_prepare_138 (wr_M15 hSh _) (fun H locs L hP hD hSh hS => ?_)
      refine lv_iconst (v := nI 0) hx hb d_Mo_prepare_139 (by decide +kernel) ?_
      refine lv_istore_n hx hb d_Mo_prepare_140 rfl hl (by decide) rfl (fun ls hl => ?_)
      have hl : lv_has ls 4 [(2, .int (nI 0)), (0, .ref (aw_m ad 0)), (1, .int (nI j))] := hl
      have L141 : ∀ (d t : Nat)  (H : Heap) (locs : List Loc) (L : va_W) (ls : Array Slot), t + d = 26 → va_P D aw_C L H → va_D (aw_Z N0) L → aw_Sh g ad G M F L → va_S (aw_Z N0) s.heap H locs → lv_has ls 4 [(0, .ref (aw_m ad 0)), (1, .int (nI j)), (2, .int (nI t))] → W p l e (headSpec ws_Mo_prepare rm_Mo_prepare).room s m ([.ref (aw_m ad 0), .int (nI j)] : List Value).toArray below meth c H locs 0 0 (MQ below (va_Qv (fun (_ : Unit) => True) (fun (_ : Unit) t => aw_H D g ad G M F N0 t.heap) (aw_Z N0)) ([.ref (aw_m ad 0), .int (nI j)] : List Value).toArray s 0 0 (aw_Z N0)) (F0 m 141 ls []) := by
        clear hP hD hSh hS
        clear hl
        intro d
        induction d with
        | zero => 
          intro t  H locs L ls ht0 hP hD hSh hS hl
          refine lv_iload_n hx hb d_Mo_prepare_141 rfl (lv_at hl 2 rfl) ?_
          refine lv_bipush (v := nI 26) hx hb d_Mo_prepare_142 (by decide +kernel) ?_
          refine lv_icmp_ge (tgt := 208) hx hb d_Mo_prepare_144 (by decide) (fun _ => ?_) (fun h => absurd (show nI 26 ≤ nI t from (nI_leI (by omega) (by omega)).mpr (by omega)) h)
          refine lv_goto (tgt := 329) hx hb d_Mo_prepare_208 (by decide) ?_
          exact W.vret hx hb hr (fun t ht hW => ⟨⟨(), rfl, trivial, aw_Hr ht hP hD hSh⟩, hS.F ht⟩) hS.2.2 d_Mo_prepare_329
        | succ d ih => 
          intro t  H locs L ls ht0 hP hD hSh hS hl
          refine lv_iload_n hx hb d_Mo_prepare_141 rfl (lv_at hl 2 rfl) ?_
          refine lv_bipush (v := nI 26) hx hb d_Mo_prepare_142 (by decide +kernel) ?_
          refine lv_icmp_ge (tgt := 208) hx hb d_Mo_prepare_144 (by decide) (fun h => absurd h (show ¬ nI 26 ≤ nI t from fun h9 => absurd ((nI_leI (by omega) (by omega)).mp h9) (by omega))) (fun _ => ?_)
          refine lv_aload_n hx hb d_Mo_prepare_147 rfl (lv_at hl 0 rfl) ?_
          obtain ⟨x73, o74, hw75, he72⟩ := rd_M0 hSh
          refine va_get (C := R_Mo) (T := T_Mo) (N := 19) (v := .ref (aw_m ad 16)) hx hb hG in_Mo hown hK hP 67 he72 rfl 18 (by decide) (hG _ gw_9_43) (fun _ h => h) rfl d_Mo_prepare_148 ?_
          refine lv_iload_n hx hb d_Mo_prepare_151 rfl (lv_at hl 2 rfl) ?_
          refine lv_iconst (v := nI 3) hx hb d_Mo_prepare_152 (by decide +kernel) ?_
          refine lv_iadd hx hb d_Mo_prepare_153 ?_
          refine aw_ti (nI_add t 3) ?_
          refine lv_aload_n hx hb d_Mo_prepare_154 rfl (lv_at hl 0 rfl) ?_
          obtain ⟨x77, o78, hw79, he76⟩ := rd_M0 hSh
          refine va_get (C := R_Mo) (T := T_Mo) (N := 19) (v := .ref (aw_m ad 15)) hx hb hG in_Mo hown hK hP 67 he76 rfl 17 (by decide) (hG _ gw_9_42) (fun _ h => h) rfl d_Mo_prepare_155 ?_
          refine lv_iload_n hx hb d_Mo_prepare_158 rfl (lv_at hl 2 rfl) ?_
          obtain ⟨f81, he80⟩ := rd_M15 hSh
          refine aw_ild hx hb hK hP 82 0 he80 rfl (k := t) (by omega) (by decide) d_Mo_prepare_159 ?_
          refine lv_topi (fun x82 _ => ?_)
          refine lv_aload_n hx hb d_Mo_prepare_160 rfl (lv_at hl 0 rfl) ?_
          obtain ⟨x84, o85, hw86, he83⟩ := rd_M0 hSh
          refine va_get (C := R_Mo) (T := T_Mo) (N := 19) (v := .ref (aw_m ad 16)) hx hb hG in_Mo hown hK hP 67 he83 rfl 18 (by decide) (hG _ gw_9_43) (fun _ h => h) rfl d_Mo_prepare_161 ?_
          refine lv_iload_n hx hb d_Mo_prepare_164 rfl (lv_at hl 2 rfl) ?_
          obtain ⟨f88, he87⟩ := rd_M16 hSh
          refine aw_ild hx hb hK hP 83 0 he87 rfl (k := t) (by omega) (by decide) d_Mo_prepare_165 ?_
          refine lv_topi (fun x89 _ => ?_)
          refine lv_bipush (v := nI 8) hx hb d_Mo_prepare_166 (by decide +kernel) ?_
          refine aw_ci ((va_runS (As := [.int x89, .int (nI 8)]) (rest := [.int x82, .int (nI (t + 3)), .ref (aw_m ad 16)]) ⟨hx, hb, hml, hown, hG⟩ (k_Mo_back l x89 (nI 8)) (aw_wS 2 hG gw_11_27 gw_11_25 gw_0_10 gw_11_26 rfl rfl hd_Mo_back ⟨Nat.le_of_ble_eq_true rfl, Nat.le_of_ble_eq_true rfl⟩) aw_p0 rfl rfl hl.1 rfl (lv_room (Nat.le_of_ble_eq_true rfl)) d_Mo_prepare_168 ⟨Nat.le_of_ble_eq_true rfl, Nat.le_of_ble_eq_true rfl⟩).run) (fun x90 hx90 => ?_)
          refine lv_iadd hx hb d_Mo_prepare_171 ?_
          refine lv_topi (fun x91 _ => ?_)
          refine lv_iload_n hx hb d_Mo_prepare_172 rfl (lv_at hl 2 rfl) ?_
          refine lv_ixor hx hb d_Mo_prepare_173 ?_
          refine lv_topi (fun x92 _ => ?_)
          obtain ⟨f94, he93⟩ := rd_M16 hSh
          refine aw_istI hx hb hK hP hD hS 83 0 he93 rfl (k := (t + 3)) (by omega) (by decide) d_Mo_prepare_174 (wr_M16 hSh _) (fun H locs L hP hD hSh hS => ?_)
          refine lv_aload_n hx hb d_Mo_prepare_175 rfl (lv_at hl 0 rfl) ?_
          obtain ⟨x96, o97, hw98, he95⟩ := rd_M0 hSh
          refine va_get (C := R_Mo) (T := T_Mo) (N := 19) (v := .ref (aw_m ad 15)) hx hb hG in_Mo hown hK hP 67 he95 rfl 17 (by decide) (hG _ gw_9_42) (fun _ h => h) rfl d_Mo_prepare_176 ?_
          refine lv_iload_n hx hb d_Mo_prepare_179 rfl (lv_at hl 2 rfl) ?_
          refine lv_iconst (v := nI 1) hx hb d_Mo_prepare_180 (by decide +kernel) ?_
          refine lv_iadd hx hb d_Mo_prepare_181 ?_
          refine aw_ti (nI_add t 1) ?_
          refine lv_aload_n hx hb d_Mo_prepare_182 rfl (lv_at hl 0 rfl) ?_
          obtain ⟨x100, o101, hw102, he99⟩ := rd_M0 hSh
          refine va_get (C := R_Mo) (T := T_Mo) (N := 19) (v := .ref (aw_m ad 15)) hx hb hG in_Mo hown hK hP 67 he99 rfl 17 (by decide) (hG _ gw_9_42) (fun _ h => h) rfl d_Mo_prepare_183 ?_
          refine lv_iload_n hx hb d_Mo_prepare_186 rfl (lv_at hl 2 rfl) ?_
          obtain ⟨f104, he103⟩ := rd_M15 hSh
          refine aw_ild hx hb hK hP 82 0 he103 rfl (k := t) (by omega) (by decide) d_Mo_prepare_187 ?_
          refine lv_topi (fun x105 _ => ?_)
          refine lv_iconst (v := nI 3) hx hb d_Mo_prepare_188 (by decide +kernel) ?_
          refine aw_ci ((va_runS (As := [.int x105, .int (nI 3)]) (rest := [.int (nI (t + 1)), .ref (aw_m ad 15)]) ⟨hx, hb, hml, hown, hG⟩ (k_Mo_turn l x105 (nI 3)) (aw_wS 2 hG gw_11_24 gw_11_22 gw_0_10 gw_11_23 rfl rfl hd_Mo_turn ⟨Nat.le_of_ble_eq_true rfl, Nat.le_of_ble_eq_true rfl⟩) aw_p0 rfl rfl hl.1 rfl (lv_room (Nat.le_of_ble_eq_true rfl)) d_Mo_prepare_189 ⟨Nat.le_of_ble_eq_true rfl, Nat.le_of_ble_eq_true rfl⟩).run) (fun x106 hx106 => ?_)
          refine lv_aload_n hx hb d_Mo_prepare_192 rfl (lv_at hl 0 rfl) ?_
          obtain ⟨x108, o109, hw110, he107⟩ := rd_M0 hSh
          refine va_get (C := R_Mo) (T := T_Mo) (N := 19) (v := .ref (aw_m ad 16)) hx hb hG in_Mo hown hK hP 67 he107 rfl 18 (by decide) (hG _ gw_9_43) (fun _ h => h) rfl d_Mo_prepare_193 ?_
          refine lv_iload_n hx hb d_Mo_prepare_196 rfl (lv_at hl 2 rfl) ?_
          refine lv_iconst (v := nI 3) hx hb d_Mo_prepare_197 (by decide +kernel) ?_
          refine lv_iadd hx hb d_Mo_prepare_198 ?_
          refine aw_ti (nI_add t 3) ?_
          obtain ⟨f112, he111⟩ := rd_M16 hSh
          refine aw_ild hx hb hK hP 83 0 he111 rfl (k := (t + 3)) (by omega) (by decide) d_Mo_prepare_199 ?_
          refine lv_topi (fun x113 _ => ?_)
          refine lv_ixor hx hb d_Mo_prepare_200 ?_
          refine lv_topi (fun x114 _ => ?_)
          obtain ⟨f116, he115⟩ := rd_M15 hSh
          refine aw_istI hx hb hK hP hD hS 82 0 he115 rfl (k := (t + 1)) (by omega) (by decide) d_Mo_prepare_201 (wr_M15 hSh _) (fun H locs L hP hD hSh hS => ?_)
          refine lv_iinc (k := 2) (v := nI (t + 1)) hx hb d_Mo_prepare_202 hl rfl (aw_inc t 1 1 (by decide +kernel)) (by decide) rfl (fun ls hl => ?_)
          have hl : lv_has ls 4 [(2, .int (nI (t + 1))), (0, .ref (aw_m ad 0)), (1, .int (nI j))] := hl
          refine lv_goto (tgt := 141) hx hb d_Mo_prepare_205 (by decide) ?_
          have hl := lv_sub hl (l' := [(0, .ref (aw_m ad 0)), (1, .int (nI j)), (2, .int (nI (t + 1)))]) [1, 2, 0] rfl
          exact ih (t + 1)  H locs L ls (by omega) hP hD hSh hS (by first | exact hl | simpa [Nat.add_assoc, Nat.mul_add, Nat.add_comm] using hl)
      have hl := lv_sub hl (l' := [(0, .ref (aw_m ad 0)), (1, .int (nI j)), (2, .int (nI 0))]) [1, 2, 0] rfl
      exact L141 26 0  _ _ _ ls (by omega) hP hD hSh hS (by first | exact hl | simpa using hl)
    · refine aw_ti (y := nI 3) (by rw [ek22, hs16]) ?_
      refine lv_tableIn (tgt := 211) (off := 197) hx hb d_Mo_prepare_14 (by decide +kernel) (by decide +kernel) (by decide +kernel) (by decide) ?_
      refine lv_aload_n hx hb d_Mo_prepare_211 rfl (lv_at hl 0 rfl) ?_
      refine lv_bipush (v := nI 44) hx hb d_Mo_prepare_212 (by decide +kernel) ?_
      obtain ⟨x118, o119, hw120, he117⟩ := rd_M0 hSh
      refine aw_put (v := .int (nI 44)) (ty := .int) (C := R_Mo) (T := T_Mo) (N := 19) hx hb hG in_Mo t_Mo t_Mo_ok n_Mo hown hK hP hD hS 67 he117 rfl 16 (by decide) (hG _ gw_9_41) (fun _ h => h) rfl (by decide +kernel) rfl rfl (Nat.le_of_ble_eq_true rfl) d_Mo_prepare_214 (wr_M0 hSh x118 44 (by omega)) (fun H locs L hP hD hSh hS => ?_)
      refine lv_iconst (v := nI 0) hx hb d_Mo_prepare_217 (by decide +kernel) ?_
      refine lv_istore_n hx hb d_Mo_prepare_218 rfl hl (by decide) rfl (fun ls hl => ?_)
      have hl : lv_has ls 4 [(2, .int (nI 0)), (0, .ref (aw_m ad 0)), (1, .int (nI j))] := hl
      have L219 : ∀ (d t : Nat)  (H : Heap) (locs : List Loc) (L : va_W) (ls : Array Slot), t + d = 4 → va_P D aw_C L H → va_D (aw_Z N0) L → aw_Sh g ad G M F L → va_S (aw_Z N0) s.heap H locs → lv_has ls 4 [(0, .ref (aw_m ad 0)), (1, .int (nI j)), (2, .int (nI t))] → W p l e (headSpec ws_Mo_prepare rm_Mo_prepare).room s m ([.ref (aw_m ad 0), .int (nI j)] : List Value).toArray below meth c H locs 0 0 (MQ below (va_Qv (fun (_ : Unit) => True) (fun (_ : Unit) t => aw_H D g ad G M F N0 t.heap) (aw_Z N0)) ([.ref (aw_m ad 0), .int (nI j)] : List Value).toArray s 0 0 (aw_Z N0)) (F0 m 219 ls []) := by
        clear hP hD hSh hS
        clear hl
        intro d
        induction d with
        | zero => 
          intro t  H locs L ls ht0 hP hD hSh hS hl
          refine lv_iload_n hx hb d_Mo_prepare_219 rfl (lv_at hl 2 rfl) ?_
          refine lv_iconst (v := nI 4) hx hb d_Mo_prepare_220 (by decide +kernel) ?_
          refine lv_icmp_ge (tgt := 244) hx hb d_Mo_prepare_221 (by decide) (fun _ => ?_) (fun h => absurd (show nI 4 ≤ nI t from (nI_leI (by omega) (by omega)).mpr (by omega)) h)
          refine lv_iconst (v := nI 4) hx hb d_Mo_prepare_244 (by decide +kernel) ?_
          refine lv_istore_n hx hb d_Mo_prepare_245 rfl hl (by decide) rfl (fun ls hl => ?_)
          have hl : lv_has ls 4 [(2, .int (nI 4)), (0, .ref (aw_m ad 0)), (1, .int (nI j))] := hl
          have L246 : ∀ (d t : Nat)  (H : Heap) (locs : List Loc) (L : va_W) (ls : Array Slot), t + d = 40 → va_P D aw_C L H → va_D (aw_Z N0) L → aw_Sh g ad G M F L → va_S (aw_Z N0) s.heap H locs → lv_has ls 4 [(0, .ref (aw_m ad 0)), (1, .int (nI j)), (2, .int (nI (4 + t)))] → W p l e (headSpec ws_Mo_prepare rm_Mo_prepare).room s m ([.ref (aw_m ad 0), .int (nI j)] : List Value).toArray below meth c H locs 0 0 (MQ below (va_Qv (fun (_ : Unit) => True) (fun (_ : Unit) t => aw_H D g ad G M F N0 t.heap) (aw_Z N0)) ([.ref (aw_m ad 0), .int (nI j)] : List Value).toArray s 0 0 (aw_Z N0)) (F0 m 246 ls []) := by
            clear hP hD hSh hS
            clear hl
            intro d
            induction d with
            | zero => 
              intro t  H locs L ls ht0 hP hD hSh hS hl
              refine lv_iload_n hx hb d_Mo_prepare_246 rfl (lv_at hl 2 rfl) ?_
              refine lv_bipush (v := nI 44) hx hb d_Mo_prepare_247 (by decide +kernel) ?_
              refine lv_icmp_ge (tgt := 315) hx hb d_Mo_prepare_249 (by decide) (fun _ => ?_) (fun h => absurd (show nI 44 ≤ nI (4 + t) from (nI_leI (by omega) (by omega)).mpr (by omega)) h)
              refine lv_goto (tgt := 329) hx hb d_Mo_prepare_315 (by decide) ?_
              exact W.vret hx hb hr (fun t ht hW => ⟨⟨(), rfl, trivial, aw_Hr ht hP hD hSh⟩, hS.F ht⟩) hS.2.2 d_Mo_prepare_329
            | succ d ih => 
              intro t  H locs L ls ht0 hP hD hSh hS hl
              refine lv_iload_n hx hb d_Mo_prepare_246 rfl (lv_at hl 2 rfl) ?_
              refine lv_bipush (v := nI 44) hx hb d_Mo_prepare_247 (by decide +kernel) ?_
              refine lv_icmp_ge (tgt := 315) hx hb d_Mo_prepare_249 (by decide) (fun h => absurd h (show ¬ nI 44 ≤ nI (4 + t) from fun h9 => absurd ((nI_leI (by omega) (by omega)).mp h9) (by omega))) (fun _ => ?_)
              refine lv_aload_n hx hb d_Mo_prepare_252 rfl (lv_at hl 0 rfl) ?_
              obtain ⟨x122, o123, hw124, he121⟩ := rd_M0 hSh
              refine va_get (C := R_Mo) (T := T_Mo) (N := 19) (v := .ref (aw_m ad 15)) hx hb hG in_Mo hown hK hP 67 he121 rfl 17 (by decide) (hG _ gw_9_42) (fun _ h => h) rfl d_Mo_prepare_253 ?_
              refine lv_iload_n hx hb d_Mo_prepare_256 rfl (lv_at hl 2 rfl) ?_
              refine lv_iconst (v := nI 1) hx hb d_Mo_prepare_257 (by decide +kernel) ?_
              refine lv_isub hx hb d_Mo_prepare_258 ?_
              refine aw_ti (pk_sub (a := (4 + t)) (b := 1) (by omega)) ?_
              obtain ⟨f126, he125⟩ := rd_M15 hSh
              refine aw_ild hx hb hK hP 82 0 he125 rfl (k := ((4 + t) - 1)) (by omega) (by decide) d_Mo_prepare_259 ?_
              refine lv_topi (fun x127 _ => ?_)
              refine lv_iconst (v := nI 3) hx hb d_Mo_prepare_260 (by decide +kernel) ?_
              refine aw_ci ((va_runS (As := [.int x127, .int (nI 3)]) (rest := []) ⟨hx, hb, hml, hown, hG⟩ (k_Mo_back l x127 (nI 3)) (aw_wS 2 hG gw_11_27 gw_11_25 gw_0_10 gw_11_26 rfl rfl hd_Mo_back ⟨Nat.le_of_ble_eq_true rfl, Nat.le_of_ble_eq_true rfl⟩) aw_p0 rfl rfl hl.1 rfl (lv_room (Nat.le_of_ble_eq_true rfl)) d_Mo_prepare_261 ⟨Nat.le_of_ble_eq_true rfl, Nat.le_of_ble_eq_true rfl⟩).run) (fun x128 hx128 => ?_)
              refine lv_aload_n hx hb d_Mo_prepare_264 rfl (lv_at hl 0 rfl) ?_
              obtain ⟨x130, o131, hw132, he129⟩ := rd_M0 hSh
              refine va_get (C := R_Mo) (T := T_Mo) (N := 19) (v := .ref (aw_m ad 15)) hx hb hG in_Mo hown hK hP 67 he129 rfl 17 (by decide) (hG _ gw_9_42) (fun _ h => h) rfl d_Mo_prepare_265 ?_
              refine lv_iload_n hx hb d_Mo_prepare_268 rfl (lv_at hl 2 rfl) ?_
              refine lv_iconst (v := nI 3) hx hb d_Mo_prepare_269 (by decide +kernel) ?_
              refine lv_isub hx hb d_Mo_prepare_270 ?_
              refine aw_ti (pk_sub (a := (4 + t)) (b := 3) (by omega)) ?_
              obtain ⟨f134, he133⟩ := rd_M15 hSh
              refine aw_ild hx hb hK hP 82 0 he133 rfl (k := ((4 + t) - 3)) (by omega) (by decide) d_Mo_prepare_271 ?_
              refine lv_topi (fun x135 _ => ?_)
              refine lv_ixor hx hb d_Mo_prepare_272 ?_
              refine lv_topi (fun x136 _ => ?_)
              refine lv_istore_n hx hb d_Mo_prepare_273 rfl hl (by decide) rfl (fun ls hl => ?_)
              have hl : lv_has ls 4 [(3, .int x136), (0, .ref (aw_m ad 0)), (1, .int (nI j)), (2, .int (nI (4 + t)))] := hl
              refine lv_iload_n hx hb d_Mo_prepare_274 rfl (lv_at hl 0 rfl) ?_
              refine lv_iload_n hx hb d_Mo_prepare_275 rfl (lv_at hl 0 rfl) ?_
              refine lv_iconst (v := nI 1) hx hb d_Mo_prepare_276 (by decide +kernel) ?_
              refine aw_ci ((va_runS (As := [.int x136, .int (nI 1)]) (rest := [.int x136]) ⟨hx, hb, hml, hown, hG⟩ (k_Mo_back l x136 (nI 1)) (aw_wS 2 hG gw_11_27 gw_11_25 gw_0_10 gw_11_26 rfl rfl hd_Mo_back ⟨Nat.le_of_ble_eq_true rfl, Nat.le_of_ble_eq_true rfl⟩) aw_p0 rfl rfl hl.1 rfl (lv_room (Nat.le_of_ble_eq_true rfl)) d_Mo_prepare_277 ⟨Nat.le_of_ble_eq_true rfl, Nat.le_of_ble_eq_true rfl⟩).run) (fun x137 hx137 => ?_)
              refine lv_ixor hx hb d_Mo_prepare_280 ?_
              refine lv_topi (fun x138 _ => ?_)
              refine lv_istore_n hx hb d_Mo_prepare_281 rfl hl (by decide) rfl (fun ls hl => ?_)
              have hl : lv_has ls 4 [(3, .int x138), (0, .ref (aw_m ad 0)), (1, .int (nI j)), (2, .int (nI (4 + t)))] := hl
              refine lv_aload_n hx hb d_Mo_prepare_282 rfl (lv_at hl 1 rfl) ?_
              obtain ⟨x140, o141, hw142, he139⟩ := rd_M0 hSh
              refine va_get (C := R_Mo) (T := T_Mo) (N := 19) (v := .ref (aw_m ad 15)) hx hb hG in_Mo hown hK hP 67 he139 rfl 17 (by decide) (hG _ gw_9_42) (fun _ h => h) rfl d_Mo_prepare_283 ?_
              refine lv_iload_n hx hb d_Mo_prepare_286 rfl (lv_at hl 3 rfl) ?_
              refine lv_aload_n hx hb d_Mo_prepare_287 rfl (lv_at hl 1 rfl) ?_
              obtain ⟨x144, o145, hw146, he143⟩ := rd_M0 hSh
              refine va_get (C := R_Mo) (T := T_Mo) (N := 19) (v := .ref (aw_m ad 15)) hx hb hG in_Mo hown hK hP 67 he143 rfl 17 (by decide) (hG _ gw_9_42) (fun _ h => h) rfl d_Mo_prepare_288 ?_
              refine lv_iload_n hx hb d_Mo_prepare_291 rfl (lv_at hl 3 rfl) ?_
              refine lv_iconst (v := nI 4) hx hb d_Mo_prepare_292 (by decide +kernel) ?_
              refine lv_isub hx hb d_Mo_prepare_293 ?_
              refine aw_ti (pk_sub (a := (4 + t)) (b := 4) (by omega)) ?_
              obtain ⟨f148, he147⟩ := rd_M15 hSh
              refine aw_ild hx hb hK hP 82 0 he147 rfl (k := ((4 + t) - 4)) (by omega) (by decide) d_Mo_prepare_294 ?_
              refine lv_topi (fun x149 _ => ?_)
              refine lv_iconst (v := (-1)) hx hb d_Mo_prepare_295 (by decide +kernel) ?_
              refine lv_ixor hx hb d_Mo_prepare_296 ?_
              refine lv_topi (fun x150 _ => ?_)
              refine lv_iload_n hx hb d_Mo_prepare_297 rfl (lv_at hl 0 rfl) ?_
              refine lv_ixor hx hb d_Mo_prepare_298 ?_
              refine lv_topi (fun x151 _ => ?_)
              refine lv_iload_n hx hb d_Mo_prepare_299 rfl (lv_at hl 3 rfl) ?_
              refine lv_iconst (v := nI 4) hx hb d_Mo_prepare_300 (by decide +kernel) ?_
              refine lv_isub hx hb d_Mo_prepare_301 ?_
              refine aw_ti (pk_sub (a := (4 + t)) (b := 4) (by omega)) ?_
              refine aw_ci ((va_runS (As := [.int (nI ((4 + t) - 4))]) (rest := [.int x151, .int (nI (4 + t)), .ref (aw_m ad 15)]) ⟨hx, hb, hml, hown, hG⟩ (k_Mo_bit l (nI ((4 + t) - 4))) (aw_wS 1 hG gw_11_30 gw_11_28 gw_0_10 gw_11_29 rfl rfl hd_Mo_bit ⟨Nat.le_of_ble_eq_true rfl, Nat.le_of_ble_eq_true rfl⟩) aw_p0 rfl rfl hl.1 rfl (lv_room (Nat.le_of_ble_eq_true rfl)) d_Mo_prepare_302 ⟨Nat.le_of_ble_eq_true rfl, Nat.le_of_ble_eq_true rfl⟩).run) (fun x152 hx152 => ?_)
              refine lv_ixor hx hb d_Mo_prepare_305 ?_
              refine lv_topi (fun x153 _ => ?_)
              refine lv_iconst (v := nI 3) hx hb d_Mo_prepare_306 (by decide +kernel) ?_
              refine lv_ixor hx hb d_Mo_prepare_307 ?_
              refine lv_topi (fun x154 _ => ?_)
              obtain ⟨f156, he155⟩ := rd_M15 hSh
              refine aw_istI hx hb hK hP hD hS 82 0 he155 rfl (k := (4 + t)) (by omega) (by decide) d_Mo_prepare_308 (wr_M15 hSh _) (fun H locs L hP hD hSh hS => ?_)
              refine lv_iinc (k := 3) (v := nI (4 + t + 1)) hx hb d_Mo_prepare_309 hl rfl (aw_inc (4 + t) 1 1 (by decide +kernel)) (by decide) rfl (fun ls hl => ?_)
              have hl : lv_has ls 4 [(2, .int (nI (4 + t + 1))), (3, .int x138), (0, .ref (aw_m ad 0)), (1, .int (nI j))] := hl
              refine lv_goto (tgt := 246) hx hb d_Mo_prepare_312 (by decide) ?_
              have hl := lv_sub hl (l' := [(0, .ref (aw_m ad 0)), (1, .int (nI j)), (2, .int (nI (4 + t + 1)))]) [2, 3, 0] rfl
              exact ih (t + 1)  H locs L ls (by omega) hP hD hSh hS (by first | exact hl | simpa [Nat.add_assoc, Nat.mul_add, Nat.add_comm] using hl)
          have hl := lv_sub hl (l' := [(0, .ref (aw_m ad 0)), (1, .int (nI j)), (2, .int (nI 4))]) [1, 2, 0] rfl
          exact L246 40 0  _ _ _ ls (by omega) hP hD hSh hS (by first | exact hl | simpa using hl)
        | succ d ih => 
          intro t  H locs L ls ht0 hP hD hSh hS hl
          refine lv_iload_n hx hb d_Mo_prepare_219 rfl (lv_at hl 2 rfl) ?_
          refine lv_iconst (v := nI 4) hx hb d_Mo_prepare_220 (by decide +kernel) ?_
          refine lv_icmp_ge (tgt := 244) hx hb d_Mo_prepare_221 (by decide) (fun h => absurd h (show ¬ nI 4 ≤ nI t from fun h9 => absurd ((nI_leI (by omega) (by omega)).mp h9) (by omega))) (fun _ => ?_)
          refine lv_aload_n hx hb d_Mo_prepare_224 rfl (lv_at hl 0 rfl) ?_
          obtain ⟨x158, o159, hw160, he157⟩ := rd_M0 hSh
          refine va_get (C := R_Mo) (T := T_Mo) (N := 19) (v := .ref (aw_m ad 15)) hx hb hG in_Mo hown hK hP 67 he157 rfl 17 (by decide) (hG _ gw_9_42) (fun _ h => h) rfl d_Mo_prepare_225 ?_
          refine lv_iconst (v := nI 3) hx hb d_Mo_prepare_228 (by decide +kernel) ?_
          refine lv_iload_n hx hb d_Mo_prepare_229 rfl (lv_at hl 2 rfl) ?_
          refine lv_isub hx hb d_Mo_prepare_230 ?_
          refine aw_ti (pk_sub (a := 3) (b := t) (by omega)) ?_
          refine lv_aload_n hx hb d_Mo_prepare_231 rfl (lv_at hl 0 rfl) ?_
          refine lv_iload_n hx hb d_Mo_prepare_232 rfl (lv_at hl 1 rfl) ?_
          refine lv_iload_n hx hb d_Mo_prepare_233 rfl (lv_at hl 2 rfl) ?_
          obtain ⟨_, _, _, he161⟩ := rd_M0 hSh
          refine va_calli (va_runV (As := [.int (nI j), .int (nI t)]) (rest := [.int (nI (3 - t)), .ref (aw_m ad 15)]) ⟨hx, hb, hml, hown, hG⟩ (k_Mo_quarter l D g ad G M F N0 j (nI t) hj) (aw_wV 2 hG gw_11_14 gw_11_12 gw_0_10 gw_11_13 gw_p_14 rfl rfl hd_Mo_quarter ⟨Nat.le_of_ble_eq_true rfl, Nat.le_of_ble_eq_true rfl⟩) (aw_qV (va_recv hK hP rfl he161) hP hD hSh hU hS) rfl rfl hl.1 rfl (lv_room (Nat.le_of_ble_eq_true rfl)) d_Mo_prepare_234 ⟨Nat.le_of_ble_eq_true rfl, Nat.le_of_ble_eq_true rfl⟩) hS (fun _ _ h => h) (fun _ h => h) (fun x162 u8 t8 H locs ht _ _ hB _ _ hS => ?_)
          obtain ⟨L, hP, hD, hSh⟩ := hB
          rw [ht] at hP
          clear ht
          obtain ⟨f164, he163⟩ := rd_M15 hSh
          refine aw_istI hx hb hK hP hD hS 82 0 he163 rfl (k := (3 - t)) (by omega) (by decide) d_Mo_prepare_237 (wr_M15 hSh _) (fun H locs L hP hD hSh hS => ?_)
          refine lv_iinc (k := 2) (v := nI (t + 1)) hx hb d_Mo_prepare_238 hl rfl (aw_inc t 1 1 (by decide +kernel)) (by decide) rfl (fun ls hl => ?_)
          have hl : lv_has ls 4 [(2, .int (nI (t + 1))), (0, .ref (aw_m ad 0)), (1, .int (nI j))] := hl
          refine lv_goto (tgt := 219) hx hb d_Mo_prepare_241 (by decide) ?_
          have hl := lv_sub hl (l' := [(0, .ref (aw_m ad 0)), (1, .int (nI j)), (2, .int (nI (t + 1)))]) [1, 2, 0] rfl
          exact ih (t + 1)  H locs L ls (by omega) hP hD hSh hS (by first | exact hl | simpa [Nat.add_assoc, Nat.mul_add, Nat.add_comm] using hl)
      have hl := lv_sub hl (l' := [(0, .ref (aw_m ad 0)), (1, .int (nI j)), (2, .int (nI 0))]) [1, 2, 0] rfl
      exact L219 4 0  _ _ _ ls (by omega) hP hD hSh hS (by first | exact hl | simpa using hl)
