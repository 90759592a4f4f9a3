abbrev ws_Rc_mixKeyIntoWords : List Cond := Cond.code y_Rc_mixKeyIntoWords b_Rc_mixKeyIntoWords 6 none :: aw_G
abbrev rm_Rc_mixKeyIntoWords : Room := { frames := 1, cells := 0, slots := 0, locals := 21 }
set_option maxHeartbeats 4000000 in
set_option maxRecDepth 100000 in
theorem k_Rc_mixKeyIntoWords (l : Launch) (D : va_G) (g : Nat → ClassId) (ad : Nat → Nat) (G M : Nat → Nat × Nat) (F : Int32) (N0 : Nat) (j : Nat) (hj : j < 4) : Met l y_Rc_mixKeyIntoWords ws_Rc_mixKeyIntoWords rm_Rc_mixKeyIntoWords (va_Pc ([.ref (aw_c ad j 2)] : List Value) (aw_B D g ad G M F N0)) (va_Qv (fun (_ : Unit) => True) (fun (_ : Unit) t => aw_H D g ad G M F N0 t.heap) (aw_Z N0)) 0 0 (aw_Z N0) := by
  refine Met.ofW (cc := b_Rc_mixKeyIntoWords) (maxL := 6) (ret := none) (by decide) rfl ?_
  intro p e s m args below meth c s₁ B hml hv
  obtain ⟨rfl, ⟨L, hP, hD, hSh⟩, hU⟩ := hv
  have hx := B.exec
  have hb := B.bytes
  have hr := B.returns
  have hG : ∀ w ∈ aw_G, w.before _ s = true := fun w h => atoms_spec (ws := ws_Rc_mixKeyIntoWords) B.pre w (List.mem_cons_of_mem _ h)
  have hown : s.vm.findClass "RuleCiphers$Rc5" = some m.cls := findClass_of_methodNamed B.named
  have hlocks := B.notSynchronized
  have hE := hU.1
  have hK := hE.1
  have hN := hE.2.1
  have hS : va_S (aw_Z N0) s.heap s.heap [] := va_S.rf
  have hl := lv_entry ([.ref (aw_c ad j 2)] : List Value) (n := 6) (Nat.le_of_ble_eq_true rfl)
  rw [lg_entry_eq]
  generalize (lg_sl ([.ref (aw_c ad j 2)] : List Value) ++ List.replicate (6 - (lg_sl ([.ref (aw_c ad j 2)] : List Value)).length) Slot.unset).toArray = ls at hl ⊢
  have hl : lv_has ls 6 [(0, .ref (aw_c ad j 2))] := hl
  refine lv_iconst (v := nI 0) hx hb d_Rc_mixKeyIntoWords_0 (by decide +kernel) ?_
  refine lv_istore_n hx hb d_Rc_mixKeyIntoWords_1 rfl hl (by decide) rfl (fun ls hl => ?_)
  have hl : lv_has ls 6 [(1, .int (nI 0)), (0, .ref (aw_c ad j 2))] := hl
  refine lv_iconst (v := nI 0) hx hb d_Rc_mixKeyIntoWords_2 (by decide +kernel) ?_
  refine lv_istore_n hx hb d_Rc_mixKeyIntoWords_3 rfl hl (by decide) rfl (fun ls hl => ?_)
  have hl : lv_has ls 6 [(2, .int (nI 0)), (1, .int (nI 0)), (0, .ref (aw_c ad j 2))] := hl
  refine lv_iconst (v := nI 0) hx hb d_Rc_mixKeyIntoWords_4 (by decide +kernel) ?_
  refine lv_istore_n hx hb d_Rc_mixKeyIntoWords_5 rfl hl (by decide) rfl (fun ls hl => ?_)
  have hl : lv_has ls 6 [(3, .int (nI 0)), (2, .int (nI 0)), (1, .int (nI 0)), (0, .ref (aw_c ad j 2))] := hl
  have L6 : ∀ (d t : Nat) (x1 : Int32) (x2 : Int32) (H : Heap) (locs : List Loc) (L : va_W) (ls : Array Slot), t + d = 78 → va_P D aw_C L H → va_D (aw_Z N0) L → aw_Sh g ad G M F L → va_S (aw_Z N0) s.heap H locs → lv_has ls 6 [(0, .ref (aw_c ad j 2)), (1, .int x1), (2, .int x2), (3, .int (nI t))] → W p l e (headSpec ws_Rc_mixKeyIntoWords rm_Rc_mixKeyIntoWords).room s m ([.ref (aw_c ad j 2)] : List Value).toArray below meth c H locs 0 0 (MQ below (va_Qv (fun (_ : Unit) => True) (fun (_ : Unit) t => aw_H D g ad G M F N0 t.heap) (aw_Z N0)) ([.ref (aw_c ad j 2)] : List Value).toArray s 0 0 (aw_Z N0)) (F0 m 6 ls []) := by
    clear hP hD hSh hS
    clear hl
    intro d
    induction d with
    | zero => 
      intro t x1 x2 H locs L ls ht0 hP hD hSh hS hl
      refine lv_iload_n hx hb d_Rc_mixKeyIntoWords_6 rfl (lv_at hl 3 rfl) ?_
      refine lv_bipush (v := nI 78) hx hb d_Rc_mixKeyIntoWords_7 (by decide +kernel) ?_
      refine lv_icmp_ge (tgt := 79) hx hb d_Rc_mixKeyIntoWords_9 (by decide) (fun _ => ?_) (fun h => absurd (show nI 78 ≤ nI t from (nI_leI (by omega) (by omega)).mpr (by omega)) h)
      exact W.vret hx hb hr (fun t ht hW => ⟨⟨(), rfl, trivial, aw_Hr ht hP hD hSh⟩, hS.F ht⟩) hS.2.2 d_Rc_mixKeyIntoWords_79
    | succ d ih => 
      intro t x1 x2 H locs L ls ht0 hP hD hSh hS hl
      refine lv_iload_n hx hb d_Rc_mixKeyIntoWords_6 rfl (lv_at hl 3 rfl) ?_
      refine lv_bipush (v := nI 78) hx hb d_Rc_mixKeyIntoWords_7 (by decide +kernel) ?_
      refine lv_icmp_ge (tgt := 79) hx hb d_Rc_mixKeyIntoWords_9 (by decide) (fun h => absurd h (show ¬ nI 78 ≤ nI t from fun h9 => absurd ((nI_leI (by omega) (by omega)).mp h9) (by omega))) (fun _ => ?_)
      refine lv_iload_n hx hb d_Rc_mixKeyIntoWords_12 rfl (lv_at hl 3 rfl) ?_
      refine lv_bipush (v := nI 26) hx hb d_Rc_mixKeyIntoWords_13 (by decide +kernel) ?_
      refine lv_irem hx hb d_Rc_mixKeyIntoWords_15 (by decide +kernel) ?_
      refine aw_ti (pk_rem (a := t) (d := 26) (by omega) (by omega) (by omega)) ?_
      refine lv_istore hx hb d_Rc_mixKeyIntoWords_16 hl (by decide) rfl (fun ls hl => ?_)
      have hl : lv_has ls 6 [(4, .int (nI (t % 26))), (0, .ref (aw_c ad j 2)), (1, .int x1), (2, .int x2), (3, .int (nI t))] := hl
      refine lv_iload_n hx hb d_Rc_mixKeyIntoWords_18 rfl (lv_at hl 4 rfl) ?_
      refine lv_iconst (v := nI 4) hx hb d_Rc_mixKeyIntoWords_19 (by decide +kernel) ?_
      refine lv_irem hx hb d_Rc_mixKeyIntoWords_20 (by decide +kernel) ?_
      refine aw_ti (pk_rem (a := t) (d := 4) (by omega) (by omega) (by omega)) ?_
      refine lv_istore hx hb d_Rc_mixKeyIntoWords_21 hl (by decide) rfl (fun ls hl => ?_)
      have hl : lv_has ls 6 [(5, .int (nI (t % 4))), (4, .int (nI (t % 26))), (0, .ref (aw_c ad j 2)), (1, .int x1), (2, .int x2), (3, .int (nI t))] := hl
      refine lv_aload_n hx hb d_Rc_mixKeyIntoWords_23 rfl (lv_at hl 2 rfl) ?_
      have he3 := rd_C2 hSh hj
      refine va_get (C := R_Rc) (T := T_Rc) (N := 2) (v := .ref (aw_c ad j 3)) hx hb hG in_Rc hown hK hP (3 + 16 * j + 2) he3 rfl 0 (by decide) (hG _ gw_0_50) (fun x9 h9 => u_same (hG _ gw_0_51) x9 h9) rfl d_Rc_mixKeyIntoWords_24 ?_
      refine lv_iload hx hb d_Rc_mixKeyIntoWords_27 (lv_at hl 1 rfl) ?_
      obtain ⟨f5, he4⟩ := rd_C3 hSh hj
      refine aw_ild hx hb hK hP (3 + 16 * j + 3) 0 he4 rfl (k := (t % 26)) (by omega) (by decide) d_Rc_mixKeyIntoWords_29 ?_
      refine lv_topi (fun x6 _ => ?_)
      refine lv_iload_n hx hb d_Rc_mixKeyIntoWords_30 rfl (lv_at hl 3 rfl) ?_
      refine lv_iadd hx hb d_Rc_mixKeyIntoWords_31 ?_
      refine lv_topi (fun x7 _ => ?_)
      refine lv_iload_n hx hb d_Rc_mixKeyIntoWords_32 rfl (lv_at hl 4 rfl) ?_
      refine lv_iadd hx hb d_Rc_mixKeyIntoWords_33 ?_
      refine lv_topi (fun x8 _ => ?_)
      refine lv_iconst (v := nI 3) hx hb d_Rc_mixKeyIntoWords_34 (by decide +kernel) ?_
      refine aw_ci ((va_runSN (As := [.int x8, .int (nI 3)]) (rest := []) ⟨hx, hb, hml, hown, hG⟩ (k_Ru_turnLeft l x8 (nI 3)) (aw_wSN 2 hG hN gw_5_5 nw_14 gw_0_1 gw_5_4 rfl rfl hd_Ru_turnLeft ⟨Nat.le_of_ble_eq_true rfl, Nat.le_of_ble_eq_true rfl⟩) aw_p0 rfl rfl hl.1 rfl (lv_room (Nat.le_of_ble_eq_true rfl)) d_Rc_mixKeyIntoWords_35 ⟨Nat.le_of_ble_eq_true rfl, Nat.le_of_ble_eq_true rfl⟩).run) (fun x9 hx9 => ?_)
      refine lv_istore_n hx hb d_Rc_mixKeyIntoWords_38 rfl hl (by decide) rfl (fun ls hl => ?_)
      have hl : lv_has ls 6 [(1, .int x9), (5, .int (nI (t % 4))), (4, .int (nI (t % 26))), (0, .ref (aw_c ad j 2)), (2, .int x2), (3, .int (nI t))] := hl
      refine lv_aload_n hx hb d_Rc_mixKeyIntoWords_39 rfl (lv_at hl 3 rfl) ?_
      have he10 := rd_C2 hSh hj
      refine va_get (C := R_Rc) (T := T_Rc) (N := 2) (v := .ref (aw_c ad j 3)) hx hb hG in_Rc hown hK hP (3 + 16 * j + 2) he10 rfl 0 (by decide) (hG _ gw_0_50) (fun x9 h9 => u_same (hG _ gw_0_51) x9 h9) rfl d_Rc_mixKeyIntoWords_40 ?_
      refine lv_iload hx hb d_Rc_mixKeyIntoWords_43 (lv_at hl 2 rfl) ?_
      refine lv_iload_n hx hb d_Rc_mixKeyIntoWords_45 rfl (lv_at hl 0 rfl) ?_
      obtain ⟨f12, he11⟩ := rd_C3 hSh hj
      refine aw_istI hx hb hK hP hD hS (3 + 16 * j + 3) 0 he11 rfl (k := (t % 26)) (by omega) (by decide) d_Rc_mixKeyIntoWords_46 (wr_C3 hSh hj _) (fun H locs L hP hD hSh hS => ?_)
      refine lv_aload_n hx hb d_Rc_mixKeyIntoWords_47 rfl (lv_at hl 3 rfl) ?_
      have he13 := rd_C2 hSh hj
      refine va_get (C := R_Rc) (T := T_Rc) (N := 2) (v := .ref (aw_c ad j 4)) hx hb hG in_Rc hown hK hP (3 + 16 * j + 2) he13 rfl 1 (by decide) (hG _ gw_0_40) (fun _ h => h) rfl d_Rc_mixKeyIntoWords_48 ?_
      refine lv_iload hx hb d_Rc_mixKeyIntoWords_51 (lv_at hl 1 rfl) ?_
      obtain ⟨f15, he14⟩ := rd_C4 hSh hj
      refine aw_ild hx hb hK hP (3 + 16 * j + 4) 0 he14 rfl (k := (t % 4)) (by omega) (by decide) d_Rc_mixKeyIntoWords_53 ?_
      refine lv_topi (fun x16 _ => ?_)
      refine lv_iload_n hx hb d_Rc_mixKeyIntoWords_54 rfl (lv_at hl 0 rfl) ?_
      refine lv_iadd hx hb d_Rc_mixKeyIntoWords_55 ?_
      refine lv_topi (fun x17 _ => ?_)
      refine lv_iload_n hx hb d_Rc_mixKeyIntoWords_56 rfl (lv_at hl 4 rfl) ?_
      refine lv_iadd hx hb d_Rc_mixKeyIntoWords_57 ?_
      refine lv_topi (fun x18 _ => ?_)
      refine lv_iload_n hx hb d_Rc_mixKeyIntoWords_58 rfl (lv_at hl 0 rfl) ?_
      refine lv_iload_n hx hb d_Rc_mixKeyIntoWords_59 rfl (lv_at hl 4 rfl) ?_
      refine lv_iadd hx hb d_Rc_mixKeyIntoWords_60 ?_
      refine lv_topi (fun x19 _ => ?_)
      refine aw_ci ((va_runSN (As := [.int x18, .int x19]) (rest := []) ⟨hx, hb, hml, hown, hG⟩ (k_Ru_turnLeft l x18 x19) (aw_wSN 2 hG hN gw_5_5 nw_14 gw_0_1 gw_5_4 rfl rfl hd_Ru_turnLeft ⟨Nat.le_of_ble_eq_true rfl, Nat.le_of_ble_eq_true rfl⟩) aw_p0 rfl rfl hl.1 rfl (lv_room (Nat.le_of_ble_eq_true rfl)) d_Rc_mixKeyIntoWords_61 ⟨Nat.le_of_ble_eq_true rfl, Nat.le_of_ble_eq_true rfl⟩).run) (fun x20 hx20 => ?_)
      refine lv_istore_n hx hb d_Rc_mixKeyIntoWords_64 rfl hl (by decide) rfl (fun ls hl => ?_)
      have hl : lv_has ls 6 [(2, .int x20), (1, .int x9), (5, .int (nI (t % 4))), (4, .int (nI (t % 26))), (0, .ref (aw_c ad j 2)), (3, .int (nI t))] := hl
      refine lv_aload_n hx hb d_Rc_mixKeyIntoWords_65 rfl (lv_at hl 4 rfl) ?_
      have he21 := rd_C2 hSh hj
      refine va_get (C := R_Rc) (T := T_Rc) (N := 2) (v := .ref (aw_c ad j 4)) hx hb hG in_Rc hown hK hP (3 + 16 * j + 2) he21 rfl 1 (by decide) (hG _ gw_0_40) (fun _ h => h) rfl d_Rc_mixKeyIntoWords_66 ?_
      refine lv_iload hx hb d_Rc_mixKeyIntoWords_69 (lv_at hl 2 rfl) ?_
      refine lv_iload_n hx hb d_Rc_mixKeyIntoWords_71 rfl (lv_at hl 0 rfl) ?_
      obtain ⟨f23, he22⟩ := rd_C4 hSh hj
      refine aw_istI hx hb hK hP hD hS (3 + 16 * j + 4) 0 he22 rfl (k := (t % 4)) (by omega) (by decide) d_Rc_mixKeyIntoWords_72 (wr_C4 hSh hj _) (fun H locs L hP hD hSh hS => ?_)
      refine lv_iinc (k := 5) (v := nI (t + 1)) hx hb d_Rc_mixKeyIntoWords_73 hl rfl (aw_inc t 1 1 (by decide +kernel)) (by decide) rfl (fun ls hl => ?_)
      have hl : lv_has ls 6 [(3, .int (nI (t + 1))), (2, .int x20), (1, .int x9), (5, .int (nI (t % 4))), (4, .int (nI (t % 26))), (0, .ref (aw_c ad j 2))] := hl
      refine lv_goto (tgt := 6) hx hb d_Rc_mixKeyIntoWords_76 (by decide) ?_
      have hl := lv_sub hl (l' := [(0, .ref (aw_c ad j 2)), (1, .int x9), (2, .int x20), (3, .int (nI (t + 1)))]) [5, 2, 1, 0] rfl
      exact ih (t + 1) x9 x20 H locs L ls (by omega) hP hD hSh hS (by first | exact hl | simpa [Nat.add_assoc, Nat.mul_add, Nat.add_comm] using hl)
  have hl := lv_sub hl (l' := [(0, .ref (aw_c ad j 2)), (1, .int (nI 0)), (2, .int (nI 0)), (3, .int (nI 0))]) [3, 2, 1, 0] rfl
  exact L6 78 0 (nI 0) (nI 0) _ _ _ ls (by omega) hP hD hSh hS (by first | exact hl | simpa using hl)
abbrev ws_Rc_schedule : List Cond := Cond.code y_Rc_schedule b_Rc_schedule 6 none :: aw_G
abbrev rm_Rc_schedule : Room := { frames := 2, cells := 0, slots := 0, locals := 47 }
set_option maxHeartbeats 4000000 in
set_option maxRecDepth 100000 in
theorem k_Rc_schedule (l : Launch) (D : va_G) (g : Nat → ClassId) (ad : Nat → Nat) (G M : Nat → Nat × Nat) (F : Int32) (N0 : Nat) (j : Nat) (a : Int64) (b : Int64) (hj : j < 4) : Met l y_Rc_schedule ws_Rc_schedule rm_Rc_schedule (va_Pc ([.ref (aw_c ad j 2), .long a, .long b] : List Value) (aw_B D g ad G M F N0)) (va_Qv (fun (_ : Unit) => True) (fun (_ : Unit) t => aw_H D g ad G M F N0 t.heap) (aw_Z N0)) 0 0 (aw_Z N0) := by
  refine Met.ofW (cc := b_Rc_schedule) (maxL := 6) (ret := none) (by decide) rfl ?_
  intro p e s m args below meth c s₁ B hml hv
  obtain ⟨rfl, ⟨L, hP, hD, hSh⟩, hU⟩ := hv
  have hx := B.exec
  have hb := B.bytes
  have hr := B.returns
  have hG : ∀ w ∈ aw_G, w.before _ s = true := fun w h => atoms_spec (ws := ws_Rc_schedule) B.pre w (List.mem_cons_of_mem _ h)
  have hown : s.vm.findClass "RuleCiphers$Rc5" = some m.cls := findClass_of_methodNamed B.named
  have hlocks := B.notSynchronized
  have hE := hU.1
  have hK := hE.1
  have hN := hE.2.1
  have hS : va_S (aw_Z N0) s.heap s.heap [] := va_S.rf
  have hl := lv_entry ([.ref (aw_c ad j 2), .long a, .long b] : List Value) (n := 6) (Nat.le_of_ble_eq_true rfl)
  rw [lg_entry_eq]
  generalize (lg_sl ([.ref (aw_c ad j 2), .long a, .long b] : List Value) ++ List.replicate (6 - (lg_sl ([.ref (aw_c ad j 2), .long a, .long b] : List Value)).length) Slot.unset).toArray = ls at hl ⊢
  have hl : lv_has ls 6 [(0, .ref (aw_c ad j 2)), (1, .long a), (3, .long b)] := hl
  refine lv_iconst (v := nI 0) hx hb d_Rc_schedule_0 (by decide +kernel) ?_
  refine lv_istore hx hb d_Rc_schedule_1 hl (by decide) rfl (fun ls hl => ?_)
  have hl : lv_has ls 6 [(5, .int (nI 0)), (0, .ref (aw_c ad j 2)), (1, .long a), (3, .long b)] := hl
  have L3 : ∀ (d t : Nat)  (H : Heap) (locs : List Loc) (L : va_W) (ls : Array Slot), t + d = 4 → va_P D aw_C L H → va_D (aw_Z N0) L → aw_Sh g ad G M F L → va_S (aw_Z N0) s.heap H locs → lv_has ls 6 [(0, .ref (aw_c ad j 2)), (1, .long a), (3, .long b), (5, .int (nI t))] → W p l e (headSpec ws_Rc_schedule rm_Rc_schedule).room s m ([.ref (aw_c ad j 2), .long a, .long b] : List Value).toArray below meth c H locs 0 0 (MQ below (va_Qv (fun (_ : Unit) => True) (fun (_ : Unit) t => aw_H D g ad G M F N0 t.heap) (aw_Z N0)) ([.ref (aw_c ad j 2), .long a, .long b] : List Value).toArray s 0 0 (aw_Z N0)) (F0 m 3 ls []) := by
    clear hP hD hSh hS
    clear hl
    intro d
    induction d with
    | zero => 
      intro t  H locs L ls ht0 hP hD hSh hS hl
      refine lv_iload hx hb d_Rc_schedule_3 (lv_at hl 3 rfl) ?_
      refine lv_iconst (v := nI 4) hx hb d_Rc_schedule_5 (by decide +kernel) ?_
      refine lv_icmp_ge (tgt := 32) hx hb d_Rc_schedule_6 (by decide) (fun _ => ?_) (fun h => absurd (show nI 4 ≤ nI t from (nI_leI (by omega) (by omega)).mpr (by omega)) h)
      refine lv_aload_n hx hb d_Rc_schedule_32 rfl (lv_at hl 0 rfl) ?_
      have he1 := rd_C2 hSh hj
      refine va_get (C := R_Rc) (T := T_Rc) (N := 2) (v := .ref (aw_c ad j 3)) hx hb hG in_Rc hown hK hP (3 + 16 * j + 2) he1 rfl 0 (by decide) (hG _ gw_0_50) (fun x9 h9 => u_same (hG _ gw_0_51) x9 h9) rfl d_Rc_schedule_33 ?_
      refine lv_iconst (v := nI 0) hx hb d_Rc_schedule_36 (by decide +kernel) ?_
      refine lv_ldc (v := (-1209970333)) hx hb hown (hG _ gw_4_59) d_Rc_schedule_37 ?_
      obtain ⟨f3, he2⟩ := rd_C3 hSh hj
      refine aw_istI hx hb hK hP hD hS (3 + 16 * j + 3) 0 he2 rfl (k := 0) (by omega) (by decide) d_Rc_schedule_39 (wr_C3 hSh hj _) (fun H locs L hP hD hSh hS => ?_)
      refine lv_iconst (v := nI 1) hx hb d_Rc_schedule_40 (by decide +kernel) ?_
      refine lv_istore hx hb d_Rc_schedule_41 hl (by decide) rfl (fun ls hl => ?_)
      have hl : lv_has ls 6 [(5, .int (nI 1)), (0, .ref (aw_c ad j 2)), (1, .long a), (3, .long b)] := hl
      have L43 : ∀ (d t : Nat)  (H : Heap) (locs : List Loc) (L : va_W) (ls : Array Slot), t + d = 25 → va_P D aw_C L H → va_D (aw_Z N0) L → aw_Sh g ad G M F L → va_S (aw_Z N0) s.heap H locs → lv_has ls 6 [(0, .ref (aw_c ad j 2)), (1, .long a), (3, .long b), (5, .int (nI (1 + t)))] → W p l e (headSpec ws_Rc_schedule rm_Rc_schedule).room s m ([.ref (aw_c ad j 2), .long a, .long b] : List Value).toArray below meth c H locs 0 0 (MQ below (va_Qv (fun (_ : Unit) => True) (fun (_ : Unit) t => aw_H D g ad G M F N0 t.heap) (aw_Z N0)) ([.ref (aw_c ad j 2), .long a, .long b] : List Value).toArray s 0 0 (aw_Z N0)) (F0 m 43 ls []) := by
        clear hP hD hSh hS
        clear hl
        intro d
        induction d with
        | zero => 
          intro t  H locs L ls ht0 hP hD hSh hS hl
          refine lv_iload hx hb d_Rc_schedule_43 (lv_at hl 3 rfl) ?_
          refine lv_bipush (v := nI 26) hx hb d_Rc_schedule_45 (by decide +kernel) ?_
          refine lv_icmp_ge (tgt := 75) hx hb d_Rc_schedule_47 (by decide) (fun _ => ?_) (fun h => absurd (show nI 26 ≤ nI (1 + t) from (nI_leI (by omega) (by omega)).mpr (by omega)) h)
          refine lv_aload_n hx hb d_Rc_schedule_75 rfl (lv_at hl 0 rfl) ?_
          have he4 := rd_C2 hSh hj
          refine va_callv (va_runV (As := []) (rest := []) ⟨hx, hb, hml, hown, hG⟩ (k_Rc_mixKeyIntoWords l D g ad G M F N0 j hj) (aw_wV 0 hG gw_5_3 gw_5_1 gw_0_4 gw_5_2 gw_p_1 rfl rfl hd_Rc_mixKeyIntoWords ⟨Nat.le_of_ble_eq_true rfl, Nat.le_of_ble_eq_true rfl⟩) (aw_qV (va_recv hK hP rfl he4) hP hD hSh hU hS) rfl rfl hl.1 rfl (lv_room (Nat.le_of_ble_eq_true rfl)) d_Rc_schedule_76 ⟨Nat.le_of_ble_eq_true rfl, Nat.le_of_ble_eq_true rfl⟩) hS (fun _ _ h => h) (fun _ h => h) (fun u8 t8 H locs ht _ _ hB _ _ hS => ?_)
          obtain ⟨L, hP, hD, hSh⟩ := hB
          rw [ht] at hP
          clear ht
          exact W.vret hx hb hr (fun t ht hW => ⟨⟨(), rfl, trivial, aw_Hr ht hP hD hSh⟩, hS.F ht⟩) hS.2.2 d_Rc_schedule_79
        | succ d ih => 
          intro t  H locs L ls ht0 hP hD hSh hS hl
          refine lv_iload hx hb d_Rc_schedule_43 (lv_at hl 3 rfl) ?_
          refine lv_bipush (v := nI 26) hx hb d_Rc_schedule_45 (by decide +kernel) ?_
          refine lv_icmp_ge (tgt := 75) hx hb d_Rc_schedule_47 (by decide) (fun h => absurd h (show ¬ nI 26 ≤ nI (1 + t) from fun h9 => absurd ((nI_leI (by omega) (by omega)).mp h9) (by omega))) (fun _ => ?_)
          refine lv_aload_n hx hb d_Rc_schedule_50 rfl (lv_at hl 0 rfl) ?_
          have he5 := rd_C2 hSh hj
          refine va_get (C := R_Rc) (T := T_Rc) (N := 2) (v := .ref (aw_c ad j 3)) hx hb hG in_Rc hown hK hP (3 + 16 * j + 2) he5 rfl 0 (by decide) (hG _ gw_0_50) (fun x9 h9 => u_same (hG _ gw_0_51) x9 h9) rfl d_Rc_schedule_51 ?_
          refine lv_iload hx hb d_Rc_schedule_54 (lv_at hl 3 rfl) ?_
          refine lv_aload_n hx hb d_Rc_schedule_56 rfl (lv_at hl 0 rfl) ?_
          have he6 := rd_C2 hSh hj
          refine va_get (C := R_Rc) (T := T_Rc) (N := 2) (v := .ref (aw_c ad j 3)) hx hb hG in_Rc hown hK hP (3 + 16 * j + 2) he6 rfl 0 (by decide) (hG _ gw_0_50) (fun x9 h9 => u_same (hG _ gw_0_51) x9 h9) rfl d_Rc_schedule_57 ?_
          refine lv_iload hx hb d_Rc_schedule_60 (lv_at hl 3 rfl) ?_
          refine lv_iconst (v := nI 1) hx hb d_Rc_schedule_62 (by decide +kernel) ?_
          refine lv_isub hx hb d_Rc_schedule_63 ?_
          refine aw_ti (pk_sub (a := (1 + t)) (b := 1) (by omega)) ?_
          obtain ⟨f8, he7⟩ := rd_C3 hSh hj
          refine aw_ild hx hb hK hP (3 + 16 * j + 3) 0 he7 rfl (k := ((1 + t) - 1)) (by omega) (by decide) d_Rc_schedule_64 ?_
          refine lv_topi (fun x9 _ => ?_)
          refine lv_ldc (v := (-1640531527)) hx hb hown (hG _ gw_5_0) d_Rc_schedule_65 ?_
          refine lv_iadd hx hb d_Rc_schedule_67 ?_
          refine lv_topi (fun x10 _ => ?_)
          obtain ⟨f12, he11⟩ := rd_C3 hSh hj
          refine aw_istI hx hb hK hP hD hS (3 + 16 * j + 3) 0 he11 rfl (k := (1 + t)) (by omega) (by decide) d_Rc_schedule_68 (wr_C3 hSh hj _) (fun H locs L hP hD hSh hS => ?_)
          refine lv_iinc (k := 3) (v := nI (1 + t + 1)) hx hb d_Rc_schedule_69 hl rfl (aw_inc (1 + t) 1 1 (by decide +kernel)) (by decide) rfl (fun ls hl => ?_)
          have hl : lv_has ls 6 [(5, .int (nI (1 + t + 1))), (0, .ref (aw_c ad j 2)), (1, .long a), (3, .long b)] := hl
          refine lv_goto (tgt := 43) hx hb d_Rc_schedule_72 (by decide) ?_
          have hl := lv_sub hl (l' := [(0, .ref (aw_c ad j 2)), (1, .long a), (3, .long b), (5, .int (nI (1 + t + 1)))]) [1, 2, 3, 0] rfl
          exact ih (t + 1)  H locs L ls (by omega) hP hD hSh hS (by first | exact hl | simpa [Nat.add_assoc, Nat.mul_add, Nat.add_comm] using hl)
      have hl := lv_sub hl (l' := [(0, .ref (aw_c ad j 2)), (1, .long a), (3, .long b), (5, .int (nI 1))]) [1, 2, 3, 0] rfl
      exact L43 25 0  _ _ _ ls (by omega) hP hD hSh hS (by first | exact hl | simpa using hl)
    | succ d ih => 
      intro t  H locs L ls ht0 hP hD hSh hS hl
      refine lv_iload hx hb d_Rc_schedule_3 (lv_at hl 3 rfl) ?_
      refine lv_iconst (v := nI 4) hx hb d_Rc_schedule_5 (by decide +kernel) ?_
      refine lv_icmp_ge (tgt := 32) hx hb d_Rc_schedule_6 (by decide) (fun h => absurd h (show ¬ nI 4 ≤ nI t from fun h9 => absurd ((nI_leI (by omega) (by omega)).mp h9) (by omega))) (fun _ => ?_)
      refine lv_aload_n hx hb d_Rc_schedule_9 rfl (lv_at hl 0 rfl) ?_
      have he13 := rd_C2 hSh hj
      refine va_get (C := R_Rc) (T := T_Rc) (N := 2) (v := .ref (aw_c ad j 4)) hx hb hG in_Rc hown hK hP (3 + 16 * j + 2) he13 rfl 1 (by decide) (hG _ gw_0_40) (fun _ h => h) rfl d_Rc_schedule_10 ?_
      refine lv_iload hx hb d_Rc_schedule_13 (lv_at hl 3 rfl) ?_
      refine lv_lload_n hx hb d_Rc_schedule_15 rfl (lv_at hl 1 rfl) ?_
      refine lv_lload_n hx hb d_Rc_schedule_16 rfl (lv_at hl 2 rfl) ?_
      refine lv_iload hx hb d_Rc_schedule_17 (lv_at hl 3 rfl) ?_
      refine aw_ci ((va_runSN (As := [.long a, .long b, .int (nI t)]) (rest := [.int (nI t), .ref (aw_c ad j 4)]) ⟨hx, hb, hml, hown, hG⟩ (k_Ru_keyQuarter l a b (nI t)) (aw_wSN 3 hG hN gw_4_49 nw_12 gw_0_1 gw_4_48 rfl rfl hd_Ru_keyQuarter ⟨Nat.le_of_ble_eq_true rfl, Nat.le_of_ble_eq_true rfl⟩) aw_p0 rfl rfl hl.1 rfl (lv_room (Nat.le_of_ble_eq_true rfl)) d_Rc_schedule_19 ⟨Nat.le_of_ble_eq_true rfl, Nat.le_of_ble_eq_true rfl⟩).run) (fun x14 hx14 => ?_)
      refine aw_ci ((va_runSN (As := [.int x14]) (rest := [.int (nI t), .ref (aw_c ad j 4)]) ⟨hx, hb, hml, hown, hG⟩ (k_Ru_bytesReversed l x14) (aw_wSN 1 hG hN gw_4_57 nw_13 gw_0_1 gw_4_56 rfl rfl hd_Ru_bytesReversed ⟨Nat.le_of_ble_eq_true rfl, Nat.le_of_ble_eq_true rfl⟩) aw_p0 rfl rfl hl.1 rfl (lv_room (Nat.le_of_ble_eq_true rfl)) d_Rc_schedule_22 ⟨Nat.le_of_ble_eq_true rfl, Nat.le_of_ble_eq_true rfl⟩).run) (fun x15 hx15 => ?_)
      obtain ⟨f17, he16⟩ := rd_C4 hSh hj
      refine aw_istI hx hb hK hP hD hS (3 + 16 * j + 4) 0 he16 rfl (k := t) (by omega) (by decide) d_Rc_schedule_25 (wr_C4 hSh hj _) (fun H locs L hP hD hSh hS => ?_)
      refine lv_iinc (k := 3) (v := nI (t + 1)) hx hb d_Rc_schedule_26 hl rfl (aw_inc t 1 1 (by decide +kernel)) (by decide) rfl (fun ls hl => ?_)
      have hl : lv_has ls 6 [(5, .int (nI (t + 1))), (0, .ref (aw_c ad j 2)), (1, .long a), (3, .long b)] := hl
      refine lv_goto (tgt := 3) hx hb d_Rc_schedule_29 (by decide) ?_
      have hl := lv_sub hl (l' := [(0, .ref (aw_c ad j 2)), (1, .long a), (3, .long b), (5, .int (nI (t + 1)))]) [1, 2, 3, 0] rfl
      exact ih (t + 1)  H locs L ls (by omega) hP hD hSh hS (by first | exact hl | simpa [Nat.add_assoc, Nat.mul_add, Nat.add_comm] using hl)
  have hl := lv_sub hl (l' := [(0, .ref (aw_c ad j 2)), (1, .long a), (3, .long b), (5, .int (nI 0))]) [1, 2, 3, 0] rfl
  exact L3 4 0  _ _ _ ls (by omega) hP hD hSh hS (by first | exact hl | simpa using hl)
abbrev ws_Xt_schedule : List Cond := Cond.code y_Xt_schedule b_Xt_schedule 6 none :: aw_G
abbrev rm_Xt_schedule : Room := { frames := 2, cells := 0, slots := 0, locals := 47 }
set_option maxHeartbeats 4000000 in
set_option maxRecDepth 100000 in
theorem k_Xt_schedule (l : Launch) (D : va_G) (g : Nat → ClassId) (ad : Nat → Nat) (G M : Nat → Nat × Nat) (F : Int32) (N0 : Nat) (j : Nat) (a : Int64) (b : Int64) (hj : j < 4) : Met l y_Xt_schedule ws_Xt_schedule rm_Xt_schedule (va_Pc ([.ref (aw_c ad j 5), .long a, .long b] : List Value) (aw_B D g ad G M F N0)) (va_Qv (fun (_ : Unit) => True) (fun (_ : Unit) t => aw_H D g ad G M F N0 t.heap) (aw_Z N0)) 0 0 (aw_Z N0) := by
  refine Met.ofW (cc := b_Xt_schedule) (maxL := 6) (ret := none) (by decide) rfl ?_
  intro p e s m args below meth c s₁ B hml hv
  obtain ⟨rfl, ⟨L, hP, hD, hSh⟩, hU⟩ := hv
  have hx := B.exec
  have hb := B.bytes
  have hr := B.returns
  have hG : ∀ w ∈ aw_G, w.before _ s = true := fun w h => atoms_spec (ws := ws_Xt_schedule) B.pre w (List.mem_cons_of_mem _ h)
  have hown : s.vm.findClass "RuleCiphers$Xtea" = some m.cls := findClass_of_methodNamed B.named
  have hlocks := B.notSynchronized
  have hE := hU.1
  have hK := hE.1
  have hN := hE.2.1
  have hS : va_S (aw_Z N0) s.heap s.heap [] := va_S.rf
  have hl := lv_entry ([.ref (aw_c ad j 5), .long a, .long b] : List Value) (n := 6) (Nat.le_of_ble_eq_true rfl)
  rw [lg_entry_eq]
  generalize (lg_sl ([.ref (aw_c ad j 5), .long a, .long b] : List Value) ++ List.replicate (6 - (lg_sl ([.ref (aw_c ad j 5), .long a, .long b] : List Value)).length) Slot.unset).toArray = ls at hl ⊢
  have hl : lv_has ls 6 [(0, .ref (aw_c ad j 5)), (1, .long a), (3, .long b)] := hl
  refine lv_iconst (v := nI 0) hx hb d_Xt_schedule_0 (by decide +kernel) ?_
  refine lv_istore hx hb d_Xt_schedule_1 hl (by decide) rfl (fun ls hl => ?_)
  have hl : lv_has ls 6 [(5, .int (nI 0)), (0, .ref (aw_c ad j 5)), (1, .long a), (3, .long b)] := hl
  have L3 : ∀ (d t : Nat)  (H : Heap) (locs : List Loc) (L : va_W) (ls : Array Slot), t + d = 4 → va_P D aw_C L H → va_D (aw_Z N0) L → aw_Sh g ad G M F L → va_S (aw_Z N0) s.heap H locs → lv_has ls 6 [(0, .ref (aw_c ad j 5)), (1, .long a), (3, .long b), (5, .int (nI t))] → W p l e (headSpec ws_Xt_schedule rm_Xt_schedule).room s m ([.ref (aw_c ad j 5), .long a, .long b] : List Value).toArray below meth c H locs 0 0 (MQ below (va_Qv (fun (_ : Unit) => True) (fun (_ : Unit) t => aw_H D g ad G M F N0 t.heap) (aw_Z N0)) ([.ref (aw_c ad j 5), .long a, .long b] : List Value).toArray s 0 0 (aw_Z N0)) (F0 m 3 ls []) := by
    clear hP hD hSh hS
    clear hl
    intro d
    induction d with
    | zero => 
      intro t  H locs L ls ht0 hP hD hSh hS hl
      refine lv_iload hx hb d_Xt_schedule_3 (lv_at hl 3 rfl) ?_
      refine lv_iconst (v := nI 4) hx hb d_Xt_schedule_5 (by decide +kernel) ?_
      refine lv_icmp_ge (tgt := 29) hx hb d_Xt_schedule_6 (by decide) (fun _ => ?_) (fun h => absurd (show nI 4 ≤ nI t from (nI_leI (by omega) (by omega)).mpr (by omega)) h)
      exact W.vret hx hb hr (fun t ht hW => ⟨⟨(), rfl, trivial, aw_Hr ht hP hD hSh⟩, hS.F ht⟩) hS.2.2 d_Xt_schedule_29
    | succ d ih => 
      intro t  H locs L ls ht0 hP hD hSh hS hl
      refine lv_iload hx hb d_Xt_schedule_3 (lv_at hl 3 rfl) ?_
      refine lv_iconst (v := nI 4) hx hb d_Xt_schedule_5 (by decide +kernel) ?_
      refine lv_icmp_ge (tgt := 29) hx hb d_Xt_schedule_6 (by decide) (fun h => absurd h (show ¬ nI 4 ≤ nI t from fun h9 => absurd ((nI_leI (by omega) (by omega)).mp h9) (by omega))) (fun _ => ?_)
      refine lv_aload_n hx hb d_Xt_schedule_9 rfl (lv_at hl 0 rfl) ?_
      have he1 := rd_C5 hSh hj
      refine va_get (C := R_Xt) (T := T_Xt) (N := 1) (v := .ref (aw_c ad j 6)) hx hb hG in_Xt hown hK hP (3 + 16 * j + 5) he1 rfl 0 (by decide) (hG _ gw_0_44) (fun x9 h9 => u_same (hG _ gw_0_45) x9 h9) rfl d_Xt_schedule_10 ?_
      refine lv_iload hx hb d_Xt_schedule_13 (lv_at hl 3 rfl) ?_
      refine lv_lload_n hx hb d_Xt_schedule_15 rfl (lv_at hl 1 rfl) ?_
      refine lv_lload_n hx hb d_Xt_schedule_16 rfl (lv_at hl 2 rfl) ?_
      refine lv_iload hx hb d_Xt_schedule_17 (lv_at hl 3 rfl) ?_
      refine aw_ci ((va_runSN (As := [.long a, .long b, .int (nI t)]) (rest := [.int (nI t), .ref (aw_c ad j 6)]) ⟨hx, hb, hml, hown, hG⟩ (k_Ru_keyQuarter l a b (nI t)) (aw_wSN 3 hG hN gw_4_49 nw_20 gw_0_1 gw_4_48 rfl rfl hd_Ru_keyQuarter ⟨Nat.le_of_ble_eq_true rfl, Nat.le_of_ble_eq_true rfl⟩) aw_p0 rfl rfl hl.1 rfl (lv_room (Nat.le_of_ble_eq_true rfl)) d_Xt_schedule_19 ⟨Nat.le_of_ble_eq_true rfl, Nat.le_of_ble_eq_true rfl⟩).run) (fun x2 hx2 => ?_)
      obtain ⟨f4, he3⟩ := rd_C6 hSh hj
      refine aw_istI hx hb hK hP hD hS (3 + 16 * j + 6) 0 he3 rfl (k := t) (by omega) (by decide) d_Xt_schedule_22 (wr_C6 hSh hj _) (fun H locs L hP hD hSh hS => ?_)
      refine lv_iinc (k := 3) (v := nI (t + 1)) hx hb d_Xt_schedule_23 hl rfl (aw_inc t 1 1 (by decide +kernel)) (by decide) rfl (fun ls hl => ?_)
      have hl : lv_has ls 6 [(5, .int (nI (t + 1))), (0, .ref (aw_c ad j 5)), (1, .long a), (3, .long b)] := hl
      refine lv_goto (tgt := 3) hx hb d_Xt_schedule_26 (by decide) ?_
      have hl := lv_sub hl (l' := [(0, .ref (aw_c ad j 5)), (1, .long a), (3, .long b), (5, .int (nI (t + 1)))]) [1, 2, 3, 0] rfl
      exact ih (t + 1)  H locs L ls (by omega) hP hD hSh hS (by first | exact hl | simpa [Nat.add_assoc, Nat.mul_add, Nat.add_comm] using hl)
  have hl := lv_sub hl (l' := [(0, .ref (aw_c ad j 5)), (1, .long a), (3, .long b), (5, .int (nI 0))]) [1, 2, 3, 0] rfl
  exact L3 4 0  _ _ _ ls (by omega) hP hD hSh hS (by first | exact hl | simpa using hl)
abbrev ws_Sp_schedule : List Cond := Cond.code y_Sp_schedule b_Sp_schedule 7 none :: aw_G
abbrev rm_Sp_schedule : Room := { frames := 2, cells := 0, slots := 0, locals := 47 }
set_option maxHeartbeats 4000000 in
set_option maxRecDepth 100000 in
theorem k_Sp_schedule (l : Launch) (D : va_G) (g : Nat → ClassId) (ad : Nat → Nat) (G M : Nat → Nat × Nat) (F : Int32) (N0 : Nat) (j : Nat) (a : Int64) (b : Int64) (hj : j < 4) : Met l y_Sp_schedule ws_Sp_schedule rm_Sp_schedule (va_Pc ([.ref (aw_c ad j 7), .long a, .long b] : List Value) (aw_B D g ad G M F N0)) (va_Qv (fun (_ : Unit) => True) (fun (_ : Unit) t => aw_H D g ad G M F N0 t.heap) (aw_Z N0)) 0 0 (aw_Z N0) := by
  refine Met.ofW (cc := b_Sp_schedule) (maxL := 7) (ret := none) (by decide) rfl ?_
  intro p e s m args below meth c s₁ B hml hv
  obtain ⟨rfl, ⟨L, hP, hD, hSh⟩, hU⟩ := hv
  have hx := B.exec
  have hb := B.bytes
  have hr := B.returns
  have hG : ∀ w ∈ aw_G, w.before _ s = true := fun w h => atoms_spec (ws := ws_Sp_schedule) B.pre w (List.mem_cons_of_mem _ h)
  have hown : s.vm.findClass "RuleCiphers$Speck" = some m.cls := findClass_of_methodNamed B.named
  have hlocks := B.notSynchronized
  have hE := hU.1
  have hK := hE.1
  have hN := hE.2.1
  have hS : va_S (aw_Z N0) s.heap s.heap [] := va_S.rf
  have hl := lv_entry ([.ref (aw_c ad j 7), .long a, .long b] : List Value) (n := 7) (Nat.le_of_ble_eq_true rfl)
  rw [lg_entry_eq]
  generalize (lg_sl ([.ref (aw_c ad j 7), .long a, .long b] : List Value) ++ List.replicate (7 - (lg_sl ([.ref (aw_c ad j 7), .long a, .long b] : List Value)).length) Slot.unset).toArray = ls at hl ⊢
  have hl : lv_has ls 7 [(0, .ref (aw_c ad j 7)), (1, .long a), (3, .long b)] := hl
  refine lv_iconst (v := nI 0) hx hb d_Sp_schedule_0 (by decide +kernel) ?_
  refine lv_istore hx hb d_Sp_schedule_1 hl (by decide) rfl (fun ls hl => ?_)
  have hl : lv_has ls 7 [(5, .int (nI 0)), (0, .ref (aw_c ad j 7)), (1, .long a), (3, .long b)] := hl
  have L3 : ∀ (d t : Nat)  (H : Heap) (locs : List Loc) (L : va_W) (ls : Array Slot), t + d = 3 → va_P D aw_C L H → va_D (aw_Z N0) L → aw_Sh g ad G M F L → va_S (aw_Z N0) s.heap H locs → lv_has ls 7 [(0, .ref (aw_c ad j 7)), (1, .long a), (3, .long b), (5, .int (nI t))] → W p l e (headSpec ws_Sp_schedule rm_Sp_schedule).room s m ([.ref (aw_c ad j 7), .long a, .long b] : List Value).toArray below meth c H locs 0 0 (MQ below (va_Qv (fun (_ : Unit) => True) (fun (_ : Unit) t => aw_H D g ad G M F N0 t.heap) (aw_Z N0)) ([.ref (aw_c ad j 7), .long a, .long b] : List Value).toArray s 0 0 (aw_Z N0)) (F0 m 3 ls []) := by
    clear hP hD hSh hS
    clear hl
    intro d
    induction d with
    | zero => 
      intro t  H locs L ls ht0 hP hD hSh hS hl
      refine lv_iload hx hb d_Sp_schedule_3 (lv_at hl 3 rfl) ?_
      refine lv_iconst (v := nI 3) hx hb d_Sp_schedule_5 (by decide +kernel) ?_
      refine lv_icmp_ge (tgt := 31) hx hb d_Sp_schedule_6 (by decide) (fun _ => ?_) (fun h => absurd (show nI 3 ≤ nI t from (nI_leI (by omega) (by omega)).mpr (by omega)) h)
      refine lv_aload_n hx hb d_Sp_schedule_31 rfl (lv_at hl 0 rfl) ?_
      have he1 := rd_C7 hSh hj
      refine va_get (C := R_Sp) (T := T_Sp) (N := 2) (v := .ref (aw_c ad j 8)) hx hb hG in_Sp hown hK hP (3 + 16 * j + 7) he1 rfl 0 (by decide) (hG _ gw_0_48) (fun x9 h9 => u_same (hG _ gw_0_49) x9 h9) rfl d_Sp_schedule_32 ?_
      refine lv_iconst (v := nI 0) hx hb d_Sp_schedule_35 (by decide +kernel) ?_
      refine lv_lload_n hx hb d_Sp_schedule_36 rfl (lv_at hl 1 rfl) ?_
      refine lv_lload_n hx hb d_Sp_schedule_37 rfl (lv_at hl 2 rfl) ?_
      refine lv_iconst (v := nI 3) hx hb d_Sp_schedule_38 (by decide +kernel) ?_
      refine aw_ci ((va_runSN (As := [.long a, .long b, .int (nI 3)]) (rest := [.int (nI 0), .ref (aw_c ad j 8)]) ⟨hx, hb, hml, hown, hG⟩ (k_Ru_keyQuarter l a b (nI 3)) (aw_wSN 3 hG hN gw_4_49 nw_17 gw_0_1 gw_4_48 rfl rfl hd_Ru_keyQuarter ⟨Nat.le_of_ble_eq_true rfl, Nat.le_of_ble_eq_true rfl⟩) aw_p0 rfl rfl hl.1 rfl (lv_room (Nat.le_of_ble_eq_true rfl)) d_Sp_schedule_39 ⟨Nat.le_of_ble_eq_true rfl, Nat.le_of_ble_eq_true rfl⟩).run) (fun x2 hx2 => ?_)
      obtain ⟨f4, he3⟩ := rd_C8 hSh hj
      refine aw_istI hx hb hK hP hD hS (3 + 16 * j + 8) 0 he3 rfl (k := 0) (by omega) (by decide) d_Sp_schedule_42 (wr_C8 hSh hj _) (fun H locs L hP hD hSh hS => ?_)
      refine lv_iconst (v := nI 0) hx hb d_Sp_schedule_43 (by decide +kernel) ?_
      refine lv_istore hx hb d_Sp_schedule_44 hl (by decide) rfl (fun ls hl => ?_)
      have hl : lv_has ls 7 [(5, .int (nI 0)), (0, .ref (aw_c ad j 7)), (1, .long a), (3, .long b)] := hl
      have L46 : ∀ (d t : Nat)  (H : Heap) (locs : List Loc) (L : va_W) (ls : Array Slot), t + d = 26 → va_P D aw_C L H → va_D (aw_Z N0) L → aw_Sh g ad G M F L → va_S (aw_Z N0) s.heap H locs → lv_has ls 7 [(0, .ref (aw_c ad j 7)), (1, .long a), (3, .long b), (5, .int (nI t))] → W p l e (headSpec ws_Sp_schedule rm_Sp_schedule).room s m ([.ref (aw_c ad j 7), .long a, .long b] : List Value).toArray below meth c H locs 0 0 (MQ below (va_Qv (fun (_ : Unit) => True) (fun (_ : Unit) t => aw_H D g ad G M F N0 t.heap) (aw_Z N0)) ([.ref (aw_c ad j 7), .long a, .long b] : List Value).toArray s 0 0 (aw_Z N0)) (F0 m 46 ls []) := by
        clear hP hD hSh hS
        clear hl
        intro d
        induction d with
        | zero => 
          intro t  H locs L ls ht0 hP hD hSh hS hl
          refine lv_iload hx hb d_Sp_schedule_46 (lv_at hl 3 rfl) ?_
          refine lv_bipush (v := nI 26) hx hb d_Sp_schedule_48 (by decide +kernel) ?_
          refine lv_icmp_ge (tgt := 120) hx hb d_Sp_schedule_50 (by decide) (fun _ => ?_) (fun h => absurd (show nI 26 ≤ nI t from (nI_leI (by omega) (by omega)).mpr (by omega)) h)
          exact W.vret hx hb hr (fun t ht hW => ⟨⟨(), rfl, trivial, aw_Hr ht hP hD hSh⟩, hS.F ht⟩) hS.2.2 d_Sp_schedule_120
        | succ d ih => 
          intro t  H locs L ls ht0 hP hD hSh hS hl
          refine lv_iload hx hb d_Sp_schedule_46 (lv_at hl 3 rfl) ?_
          refine lv_bipush (v := nI 26) hx hb d_Sp_schedule_48 (by decide +kernel) ?_
          refine lv_icmp_ge (tgt := 120) hx hb d_Sp_schedule_50 (by decide) (fun h => absurd h (show ¬ nI 26 ≤ nI t from fun h9 => absurd ((nI_leI (by omega) (by omega)).mp h9) (by omega))) (fun _ => ?_)
          refine lv_aload_n hx hb d_Sp_schedule_53 rfl (lv_at hl 0 rfl) ?_
          have he5 := rd_C7 hSh hj
          refine va_get (C := R_Sp) (T := T_Sp) (N := 2) (v := .ref (aw_c ad j 8)) hx hb hG in_Sp hown hK hP (3 + 16 * j + 7) he5 rfl 0 (by decide) (hG _ gw_0_48) (fun x9 h9 => u_same (hG _ gw_0_49) x9 h9) rfl d_Sp_schedule_54 ?_
          refine lv_iload hx hb d_Sp_schedule_57 (lv_at hl 3 rfl) ?_
          obtain ⟨f7, he6⟩ := rd_C8 hSh hj
          refine aw_ild hx hb hK hP (3 + 16 * j + 8) 0 he6 rfl (k := t) (by omega) (by decide) d_Sp_schedule_59 ?_
          refine lv_topi (fun x8 _ => ?_)
          refine lv_aload_n hx hb d_Sp_schedule_60 rfl (lv_at hl 0 rfl) ?_
          have he9 := rd_C7 hSh hj
          refine va_get (C := R_Sp) (T := T_Sp) (N := 2) (v := .ref (aw_c ad j 9)) hx hb hG in_Sp hown hK hP (3 + 16 * j + 7) he9 rfl 1 (by decide) (hG _ gw_1_12) (fun _ h => h) rfl d_Sp_schedule_61 ?_
          refine lv_iload hx hb d_Sp_schedule_64 (lv_at hl 3 rfl) ?_
          refine lv_iconst (v := nI 3) hx hb d_Sp_schedule_66 (by decide +kernel) ?_
          refine lv_irem hx hb d_Sp_schedule_67 (by decide +kernel) ?_
          refine aw_ti (pk_rem (a := t) (d := 3) (by omega) (by omega) (by omega)) ?_
          obtain ⟨f11, he10⟩ := rd_C9 hSh hj
          refine aw_ild hx hb hK hP (3 + 16 * j + 9) 0 he10 rfl (k := (t % 3)) (by omega) (by decide) d_Sp_schedule_68 ?_
          refine lv_topi (fun x12 _ => ?_)
          refine lv_bipush (v := nI 8) hx hb d_Sp_schedule_69 (by decide +kernel) ?_
          refine aw_ci ((va_runSN (As := [.int x12, .int (nI 8)]) (rest := [.int x8]) ⟨hx, hb, hml, hown, hG⟩ (k_Ru_turnRight l x12 (nI 8)) (aw_wSN 2 hG hN gw_5_10 nw_18 gw_0_1 gw_5_9 rfl rfl hd_Ru_turnRight ⟨Nat.le_of_ble_eq_true rfl, Nat.le_of_ble_eq_true rfl⟩) aw_p0 rfl rfl hl.1 rfl (lv_room (Nat.le_of_ble_eq_true rfl)) d_Sp_schedule_71 ⟨Nat.le_of_ble_eq_true rfl, Nat.le_of_ble_eq_true rfl⟩).run) (fun x13 hx13 => ?_)
          refine lv_iadd hx hb d_Sp_schedule_74 ?_
          refine lv_topi (fun x14 _ => ?_)
          refine lv_iload hx hb d_Sp_schedule_75 (lv_at hl 3 rfl) ?_
          refine lv_ixor hx hb d_Sp_schedule_77 ?_
          refine lv_topi (fun x15 _ => ?_)
          refine lv_istore hx hb d_Sp_schedule_78 hl (by decide) rfl (fun ls hl => ?_)
          have hl : lv_has ls 7 [(6, .int x15), (0, .ref (aw_c ad j 7)), (1, .long a), (3, .long b), (5, .int (nI t))] := hl
          refine lv_aload_n hx hb d_Sp_schedule_80 rfl (lv_at hl 1 rfl) ?_
          have he16 := rd_C7 hSh hj
          refine va_get (C := R_Sp) (T := T_Sp) (N := 2) (v := .ref (aw_c ad j 9)) hx hb hG in_Sp hown hK hP (3 + 16 * j + 7) he16 rfl 1 (by decide) (hG _ gw_1_12) (fun _ h => h) rfl d_Sp_schedule_81 ?_
          refine lv_iload hx hb d_Sp_schedule_84 (lv_at hl 4 rfl) ?_
          refine lv_iconst (v := nI 3) hx hb d_Sp_schedule_86 (by decide +kernel) ?_
          refine lv_irem hx hb d_Sp_schedule_87 (by decide +kernel) ?_
          refine aw_ti (pk_rem (a := t) (d := 3) (by omega) (by omega) (by omega)) ?_
          refine lv_iload hx hb d_Sp_schedule_88 (lv_at hl 0 rfl) ?_
          obtain ⟨f18, he17⟩ := rd_C9 hSh hj
          refine aw_istI hx hb hK hP hD hS (3 + 16 * j + 9) 0 he17 rfl (k := (t % 3)) (by omega) (by decide) d_Sp_schedule_90 (wr_C9 hSh hj _) (fun H locs L hP hD hSh hS => ?_)
          refine lv_aload_n hx hb d_Sp_schedule_91 rfl (lv_at hl 1 rfl) ?_
          have he19 := rd_C7 hSh hj
          refine va_get (C := R_Sp) (T := T_Sp) (N := 2) (v := .ref (aw_c ad j 8)) hx hb hG in_Sp hown hK hP (3 + 16 * j + 7) he19 rfl 0 (by decide) (hG _ gw_0_48) (fun x9 h9 => u_same (hG _ gw_0_49) x9 h9) rfl d_Sp_schedule_92 ?_
          refine lv_iload hx hb d_Sp_schedule_95 (lv_at hl 4 rfl) ?_
          refine lv_iconst (v := nI 1) hx hb d_Sp_schedule_97 (by decide +kernel) ?_
          refine lv_iadd hx hb d_Sp_schedule_98 ?_
          refine aw_ti (nI_add t 1) ?_
          refine lv_aload_n hx hb d_Sp_schedule_99 rfl (lv_at hl 1 rfl) ?_
          have he20 := rd_C7 hSh hj
          refine va_get (C := R_Sp) (T := T_Sp) (N := 2) (v := .ref (aw_c ad j 8)) hx hb hG in_Sp hown hK hP (3 + 16 * j + 7) he20 rfl 0 (by decide) (hG _ gw_0_48) (fun x9 h9 => u_same (hG _ gw_0_49) x9 h9) rfl d_Sp_schedule_100 ?_
          refine lv_iload hx hb d_Sp_schedule_103 (lv_at hl 4 rfl) ?_
          obtain ⟨f22, he21⟩ := rd_C8 hSh hj
          refine aw_ild hx hb hK hP (3 + 16 * j + 8) 0 he21 rfl (k := t) (by omega) (by decide) d_Sp_schedule_105 ?_
          refine lv_topi (fun x23 _ => ?_)
          refine lv_iconst (v := nI 3) hx hb d_Sp_schedule_106 (by decide +kernel) ?_
          refine aw_ci ((va_runSN (As := [.int x23, .int (nI 3)]) (rest := [.int (nI (t + 1)), .ref (aw_c ad j 8)]) ⟨hx, hb, hml, hown, hG⟩ (k_Ru_turnLeft l x23 (nI 3)) (aw_wSN 2 hG hN gw_5_5 nw_19 gw_0_1 gw_5_4 rfl rfl hd_Ru_turnLeft ⟨Nat.le_of_ble_eq_true rfl, Nat.le_of_ble_eq_true rfl⟩) aw_p0 rfl rfl hl.1 rfl (lv_room (Nat.le_of_ble_eq_true rfl)) d_Sp_schedule_107 ⟨Nat.le_of_ble_eq_true rfl, Nat.le_of_ble_eq_true rfl⟩).run) (fun x24 hx24 => ?_)
          refine lv_iload hx hb d_Sp_schedule_110 (lv_at hl 0 rfl) ?_
          refine lv_ixor hx hb d_Sp_schedule_112 ?_
          refine lv_topi (fun x25 _ => ?_)
          obtain ⟨f27, he26⟩ := rd_C8 hSh hj
          refine aw_istI hx hb hK hP hD hS (3 + 16 * j + 8) 0 he26 rfl (k := (t + 1)) (by omega) (by decide) d_Sp_schedule_113 (wr_C8 hSh hj _) (fun H locs L hP hD hSh hS => ?_)
          refine lv_iinc (k := 4) (v := nI (t + 1)) hx hb d_Sp_schedule_114 hl rfl (aw_inc t 1 1 (by decide +kernel)) (by decide) rfl (fun ls hl => ?_)
          have hl : lv_has ls 7 [(5, .int (nI (t + 1))), (6, .int x15), (0, .ref (aw_c ad j 7)), (1, .long a), (3, .long b)] := hl
          refine lv_goto (tgt := 46) hx hb d_Sp_schedule_117 (by decide) ?_
          have hl := lv_sub hl (l' := [(0, .ref (aw_c ad j 7)), (1, .long a), (3, .long b), (5, .int (nI (t + 1)))]) [2, 3, 4, 0] rfl
          exact ih (t + 1)  H locs L ls (by omega) hP hD hSh hS (by first | exact hl | simpa [Nat.add_assoc, Nat.mul_add, Nat.add_comm] using hl)
      have hl := lv_sub hl (l' := [(0, .ref (aw_c ad j 7)), (1, .long a), (3, .long b), (5, .int (nI 0))]) [1, 2, 3, 0] rfl
      exact L46 26 0  _ _ _ ls (by omega) hP hD hSh hS (by first | exact hl | simpa using hl)
    | succ d ih => 
      intro t  H locs L ls ht0 hP hD hSh hS hl
      refine lv_iload hx hb d_Sp_schedule_3 (lv_at hl 3 rfl) ?_
      refine lv_iconst (v := nI 3) hx hb d_Sp_schedule_5 (by decide +kernel) ?_
      refine lv_icmp_ge (tgt := 31) hx hb d_Sp_schedule_6 (by decide) (fun h => absurd h (show ¬ nI 3 ≤ nI t from fun h9 => absurd ((nI_leI (by omega) (by omega)).mp h9) (by omega))) (fun _ => ?_)
      refine lv_aload_n hx hb d_Sp_schedule_9 rfl (lv_at hl 0 rfl) ?_
      have he28 := rd_C7 hSh hj
      refine va_get (C := R_Sp) (T := T_Sp) (N := 2) (v := .ref (aw_c ad j 9)) hx hb hG in_Sp hown hK hP (3 + 16 * j + 7) he28 rfl 1 (by decide) (hG _ gw_1_12) (fun _ h => h) rfl d_Sp_schedule_10 ?_
      refine lv_iconst (v := nI 2) hx hb d_Sp_schedule_13 (by decide +kernel) ?_
      refine lv_iload hx hb d_Sp_schedule_14 (lv_at hl 3 rfl) ?_
      refine lv_isub hx hb d_Sp_schedule_16 ?_
      refine aw_ti (pk_sub (a := 2) (b := t) (by omega)) ?_
      refine lv_lload_n hx hb d_Sp_schedule_17 rfl (lv_at hl 1 rfl) ?_
      refine lv_lload_n hx hb d_Sp_schedule_18 rfl (lv_at hl 2 rfl) ?_
      refine lv_iload hx hb d_Sp_schedule_19 (lv_at hl 3 rfl) ?_
      refine aw_ci ((va_runSN (As := [.long a, .long b, .int (nI t)]) (rest := [.int (nI (2 - t)), .ref (aw_c ad j 9)]) ⟨hx, hb, hml, hown, hG⟩ (k_Ru_keyQuarter l a b (nI t)) (aw_wSN 3 hG hN gw_4_49 nw_17 gw_0_1 gw_4_48 rfl rfl hd_Ru_keyQuarter ⟨Nat.le_of_ble_eq_true rfl, Nat.le_of_ble_eq_true rfl⟩) aw_p0 rfl rfl hl.1 rfl (lv_room (Nat.le_of_ble_eq_true rfl)) d_Sp_schedule_21 ⟨Nat.le_of_ble_eq_true rfl, Nat.le_of_ble_eq_true rfl⟩).run) (fun x29 hx29 => ?_)
      obtain ⟨f31, he30⟩ := rd_C9 hSh hj
      refine aw_istI hx hb hK hP hD hS (3 + 16 * j + 9) 0 he30 rfl (k := (2 - t)) (by omega) (by decide) d_Sp_schedule_24 (wr_C9 hSh hj _) (fun H locs L hP hD hSh hS => ?_)
      refine lv_iinc (k := 3) (v := nI (t + 1)) hx hb d_Sp_schedule_25 hl rfl (aw_inc t 1 1 (by decide +kernel)) (by decide) rfl (fun ls hl => ?_)
      have hl : lv_has ls 7 [(5, .int (nI (t + 1))), (0, .ref (aw_c ad j 7)), (1, .long a), (3, .long b)] := hl
      refine lv_goto (tgt := 3) hx hb d_Sp_schedule_28 (by decide) ?_
      have hl := lv_sub hl (l' := [(0, .ref (aw_c ad j 7)), (1, .long a), (3, .long b), (5, .int (nI (t + 1)))]) [1, 2, 3, 0] rfl
      exact ih (t + 1)  H locs L ls (by omega) hP hD hSh hS (by first | exact hl | simpa [Nat.add_assoc, Nat.mul_add, Nat.add_comm] using hl)
  have hl := lv_sub hl (l' := [(0, .ref (aw_c ad j 7)), (1, .long a), (3, .long b), (5, .int (nI 0))]) [1, 2, 3, 0] rfl
  exact L3 3 0  _ _ _ ls (by omega) hP hD hSh hS (by first | exact hl | simpa using hl)
abbrev ws_Si_schedule : List Cond := Cond.code y_Si_schedule b_Si_schedule 7 none :: aw_G
abbrev rm_Si_schedule : Room := { frames := 2, cells := 0, slots := 0, locals := 47 }
set_option maxHeartbeats 4000000 in
set_option maxRecDepth 100000 in
theorem k_Si_schedule (l : Launch) (D : va_G) (g : Nat → ClassId) (ad : Nat → Nat) (G M : Nat → Nat × Nat) (F : Int32) (N0 : Nat) (j : Nat) (a : Int64) (b : Int64) (hj : j < 4) : Met l y_Si_schedule ws_Si_schedule rm_Si_schedule (va_Pc ([.ref (aw_c ad j 10), .long a, .long b] : List Value) (aw_B D g ad G M F N0)) (va_Qv (fun (_ : Unit) => True) (fun (_ : Unit) t => aw_H D g ad G M F N0 t.heap) (aw_Z N0)) 0 0 (aw_Z N0) := by
  refine Met.ofW (cc := b_Si_schedule) (maxL := 7) (ret := none) (by decide) rfl ?_
  intro p e s m args below meth c s₁ B hml hv
  obtain ⟨rfl, ⟨L, hP, hD, hSh⟩, hU⟩ := hv
  have hx := B.exec
  have hb := B.bytes
  have hr := B.returns
  have hG : ∀ w ∈ aw_G, w.before _ s = true := fun w h => atoms_spec (ws := ws_Si_schedule) B.pre w (List.mem_cons_of_mem _ h)
  have hown : s.vm.findClass "RuleCiphers$Simon" = some m.cls := findClass_of_methodNamed B.named
  have hlocks := B.notSynchronized
  have hE := hU.1
  have hK := hE.1
  have hN := hE.2.1
  have hS : va_S (aw_Z N0) s.heap s.heap [] := va_S.rf
  have hl := lv_entry ([.ref (aw_c ad j 10), .long a, .long b] : List Value) (n := 7) (Nat.le_of_ble_eq_true rfl)
  rw [lg_entry_eq]
  generalize (lg_sl ([.ref (aw_c ad j 10), .long a, .long b] : List Value) ++ List.replicate (7 - (lg_sl ([.ref (aw_c ad j 10), .long a, .long b] : List Value)).length) Slot.unset).toArray = ls at hl ⊢
  have hl : lv_has ls 7 [(0, .ref (aw_c ad j 10)), (1, .long a), (3, .long b)] := hl
  refine lv_iconst (v := nI 0) hx hb d_Si_schedule_0 (by decide +kernel) ?_
  refine lv_istore hx hb d_Si_schedule_1 hl (by decide) rfl (fun ls hl => ?_)
  have hl : lv_has ls 7 [(5, .int (nI 0)), (0, .ref (aw_c ad j 10)), (1, .long a), (3, .long b)] := hl
  have L3 : ∀ (d t : Nat)  (H : Heap) (locs : List Loc) (L : va_W) (ls : Array Slot), t + d = 4 → va_P D aw_C L H → va_D (aw_Z N0) L → aw_Sh g ad G M F L → va_S (aw_Z N0) s.heap H locs → lv_has ls 7 [(0, .ref (aw_c ad j 10)), (1, .long a), (3, .long b), (5, .int (nI t))] → W p l e (headSpec ws_Si_schedule rm_Si_schedule).room s m ([.ref (aw_c ad j 10), .long a, .long b] : List Value).toArray below meth c H locs 0 0 (MQ below (va_Qv (fun (_ : Unit) => True) (fun (_ : Unit) t => aw_H D g ad G M F N0 t.heap) (aw_Z N0)) ([.ref (aw_c ad j 10), .long a, .long b] : List Value).toArray s 0 0 (aw_Z N0)) (F0 m 3 ls []) := by
    clear hP hD hSh hS
    clear hl
    intro d
    induction d with
    | zero => 
      intro t  H locs L ls ht0 hP hD hSh hS hl
      refine lv_iload hx hb d_Si_schedule_3 (lv_at hl 3 rfl) ?_
      refine lv_iconst (v := nI 4) hx hb d_Si_schedule_5 (by decide +kernel) ?_
      refine lv_icmp_ge (tgt := 31) hx hb d_Si_schedule_6 (by decide) (fun _ => ?_) (fun h => absurd (show nI 4 ≤ nI t from (nI_leI (by omega) (by omega)).mpr (by omega)) h)
      refine lv_iconst (v := nI 4) hx hb d_Si_schedule_31 (by decide +kernel) ?_
      refine lv_istore hx hb d_Si_schedule_32 hl (by decide) rfl (fun ls hl => ?_)
      have hl : lv_has ls 7 [(5, .int (nI 4)), (0, .ref (aw_c ad j 10)), (1, .long a), (3, .long b)] := hl
      have L34 : ∀ (d t : Nat)  (H : Heap) (locs : List Loc) (L : va_W) (ls : Array Slot), t + d = 40 → va_P D aw_C L H → va_D (aw_Z N0) L → aw_Sh g ad G M F L → va_S (aw_Z N0) s.heap H locs → lv_has ls 7 [(0, .ref (aw_c ad j 10)), (1, .long a), (3, .long b), (5, .int (nI (4 + t)))] → W p l e (headSpec ws_Si_schedule rm_Si_schedule).room s m ([.ref (aw_c ad j 10), .long a, .long b] : List Value).toArray below meth c H locs 0 0 (MQ below (va_Qv (fun (_ : Unit) => True) (fun (_ : Unit) t => aw_H D g ad G M F N0 t.heap) (aw_Z N0)) ([.ref (aw_c ad j 10), .long a, .long b] : List Value).toArray s 0 0 (aw_Z N0)) (F0 m 34 ls []) := by
        clear hP hD hSh hS
        clear hl
        intro d
        induction d with
        | zero => 
          intro t  H locs L ls ht0 hP hD hSh hS hl
          refine lv_iload hx hb d_Si_schedule_34 (lv_at hl 3 rfl) ?_
          refine lv_bipush (v := nI 44) hx hb d_Si_schedule_36 (by decide +kernel) ?_
          refine lv_icmp_ge (tgt := 114) hx hb d_Si_schedule_38 (by decide) (fun _ => ?_) (fun h => absurd (show nI 44 ≤ nI (4 + t) from (nI_leI (by omega) (by omega)).mpr (by omega)) h)
          exact W.vret hx hb hr (fun t ht hW => ⟨⟨(), rfl, trivial, aw_Hr ht hP hD hSh⟩, hS.F ht⟩) hS.2.2 d_Si_schedule_114
        | succ d ih => 
          intro t  H locs L ls ht0 hP hD hSh hS hl
          refine lv_iload hx hb d_Si_schedule_34 (lv_at hl 3 rfl) ?_
          refine lv_bipush (v := nI 44) hx hb d_Si_schedule_36 (by decide +kernel) ?_
          refine lv_icmp_ge (tgt := 114) hx hb d_Si_schedule_38 (by decide) (fun h => absurd h (show ¬ nI 44 ≤ nI (4 + t) from fun h9 => absurd ((nI_leI (by omega) (by omega)).mp h9) (by omega))) (fun _ => ?_)
          refine lv_aload_n hx hb d_Si_schedule_41 rfl (lv_at hl 0 rfl) ?_
          have he1 := rd_C10 hSh hj
          refine va_get (C := R_Si) (T := T_Si) (N := 1) (v := .ref (aw_c ad j 11)) hx hb hG in_Si hown hK hP (3 + 16 * j + 10) he1 rfl 0 (by decide) (hG _ gw_0_42) (fun x9 h9 => u_same (hG _ gw_0_43) x9 h9) rfl d_Si_schedule_42 ?_
          refine lv_iload hx hb d_Si_schedule_45 (lv_at hl 3 rfl) ?_
          refine lv_iconst (v := nI 1) hx hb d_Si_schedule_47 (by decide +kernel) ?_
          refine lv_isub hx hb d_Si_schedule_48 ?_
          refine aw_ti (pk_sub (a := (4 + t)) (b := 1) (by omega)) ?_
          obtain ⟨f3, he2⟩ := rd_C11 hSh hj
          refine aw_ild hx hb hK hP (3 + 16 * j + 11) 0 he2 rfl (k := ((4 + t) - 1)) (by omega) (by decide) d_Si_schedule_49 ?_
          refine lv_topi (fun x4 _ => ?_)
          refine lv_iconst (v := nI 3) hx hb d_Si_schedule_50 (by decide +kernel) ?_
          refine aw_ci ((va_runSN (As := [.int x4, .int (nI 3)]) (rest := []) ⟨hx, hb, hml, hown, hG⟩ (k_Ru_turnRight l x4 (nI 3)) (aw_wSN 2 hG hN gw_5_10 nw_16 gw_0_1 gw_5_9 rfl rfl hd_Ru_turnRight ⟨Nat.le_of_ble_eq_true rfl, Nat.le_of_ble_eq_true rfl⟩) aw_p0 rfl rfl hl.1 rfl (lv_room (Nat.le_of_ble_eq_true rfl)) d_Si_schedule_51 ⟨Nat.le_of_ble_eq_true rfl, Nat.le_of_ble_eq_true rfl⟩).run) (fun x5 hx5 => ?_)
          refine lv_aload_n hx hb d_Si_schedule_54 rfl (lv_at hl 0 rfl) ?_
          have he6 := rd_C10 hSh hj
          refine va_get (C := R_Si) (T := T_Si) (N := 1) (v := .ref (aw_c ad j 11)) hx hb hG in_Si hown hK hP (3 + 16 * j + 10) he6 rfl 0 (by decide) (hG _ gw_0_42) (fun x9 h9 => u_same (hG _ gw_0_43) x9 h9) rfl d_Si_schedule_55 ?_
          refine lv_iload hx hb d_Si_schedule_58 (lv_at hl 3 rfl) ?_
          refine lv_iconst (v := nI 3) hx hb d_Si_schedule_60 (by decide +kernel) ?_
          refine lv_isub hx hb d_Si_schedule_61 ?_
          refine aw_ti (pk_sub (a := (4 + t)) (b := 3) (by omega)) ?_
          obtain ⟨f8, he7⟩ := rd_C11 hSh hj
          refine aw_ild hx hb hK hP (3 + 16 * j + 11) 0 he7 rfl (k := ((4 + t) - 3)) (by omega) (by decide) d_Si_schedule_62 ?_
          refine lv_topi (fun x9 _ => ?_)
          refine lv_ixor hx hb d_Si_schedule_63 ?_
          refine lv_topi (fun x10 _ => ?_)
          refine lv_istore hx hb d_Si_schedule_64 hl (by decide) rfl (fun ls hl => ?_)
          have hl : lv_has ls 7 [(6, .int x10), (0, .ref (aw_c ad j 10)), (1, .long a), (3, .long b), (5, .int (nI (4 + t)))] := hl
          refine lv_iload hx hb d_Si_schedule_66 (lv_at hl 0 rfl) ?_
          refine lv_iload hx hb d_Si_schedule_68 (lv_at hl 0 rfl) ?_
          refine lv_iconst (v := nI 1) hx hb d_Si_schedule_70 (by decide +kernel) ?_
          refine aw_ci ((va_runSN (As := [.int x10, .int (nI 1)]) (rest := [.int x10]) ⟨hx, hb, hml, hown, hG⟩ (k_Ru_turnRight l x10 (nI 1)) (aw_wSN 2 hG hN gw_5_10 nw_16 gw_0_1 gw_5_9 rfl rfl hd_Ru_turnRight ⟨Nat.le_of_ble_eq_true rfl, Nat.le_of_ble_eq_true rfl⟩) aw_p0 rfl rfl hl.1 rfl (lv_room (Nat.le_of_ble_eq_true rfl)) d_Si_schedule_71 ⟨Nat.le_of_ble_eq_true rfl, Nat.le_of_ble_eq_true rfl⟩).run) (fun x11 hx11 => ?_)
          refine lv_ixor hx hb d_Si_schedule_74 ?_
          refine lv_topi (fun x12 _ => ?_)
          refine lv_istore hx hb d_Si_schedule_75 hl (by decide) rfl (fun ls hl => ?_)
          have hl : lv_has ls 7 [(6, .int x12), (0, .ref (aw_c ad j 10)), (1, .long a), (3, .long b), (5, .int (nI (4 + t)))] := hl
          refine lv_aload_n hx hb d_Si_schedule_77 rfl (lv_at hl 1 rfl) ?_
          have he13 := rd_C10 hSh hj
          refine va_get (C := R_Si) (T := T_Si) (N := 1) (v := .ref (aw_c ad j 11)) hx hb hG in_Si hown hK hP (3 + 16 * j + 10) he13 rfl 0 (by decide) (hG _ gw_0_42) (fun x9 h9 => u_same (hG _ gw_0_43) x9 h9) rfl d_Si_schedule_78 ?_
          refine lv_iload hx hb d_Si_schedule_81 (lv_at hl 4 rfl) ?_
          refine lv_aload_n hx hb d_Si_schedule_83 rfl (lv_at hl 1 rfl) ?_
          have he14 := rd_C10 hSh hj
          refine va_get (C := R_Si) (T := T_Si) (N := 1) (v := .ref (aw_c ad j 11)) hx hb hG in_Si hown hK hP (3 + 16 * j + 10) he14 rfl 0 (by decide) (hG _ gw_0_42) (fun x9 h9 => u_same (hG _ gw_0_43) x9 h9) rfl d_Si_schedule_84 ?_
          refine lv_iload hx hb d_Si_schedule_87 (lv_at hl 4 rfl) ?_
          refine lv_iconst (v := nI 4) hx hb d_Si_schedule_89 (by decide +kernel) ?_
          refine lv_isub hx hb d_Si_schedule_90 ?_
          refine aw_ti (pk_sub (a := (4 + t)) (b := 4) (by omega)) ?_
          obtain ⟨f16, he15⟩ := rd_C11 hSh hj
          refine aw_ild hx hb hK hP (3 + 16 * j + 11) 0 he15 rfl (k := ((4 + t) - 4)) (by omega) (by decide) d_Si_schedule_91 ?_
          refine lv_topi (fun x17 _ => ?_)
          refine lv_iconst (v := (-1)) hx hb d_Si_schedule_92 (by decide +kernel) ?_
          refine lv_ixor hx hb d_Si_schedule_93 ?_
          refine lv_topi (fun x18 _ => ?_)
          refine lv_iload hx hb d_Si_schedule_94 (lv_at hl 0 rfl) ?_
          refine lv_ixor hx hb d_Si_schedule_96 ?_
          refine lv_topi (fun x19 _ => ?_)
          refine lv_iload hx hb d_Si_schedule_97 (lv_at hl 4 rfl) ?_
          refine lv_iconst (v := nI 4) hx hb d_Si_schedule_99 (by decide +kernel) ?_
          refine lv_isub hx hb d_Si_schedule_100 ?_
          refine aw_ti (pk_sub (a := (4 + t)) (b := 4) (by omega)) ?_
          refine aw_ci ((va_runS (As := [.int (nI ((4 + t) - 4))]) (rest := [.int x19, .int (nI (4 + t)), .ref (aw_c ad j 11)]) ⟨hx, hb, hml, hown, hG⟩ (k_Si_zBit l (nI ((4 + t) - 4))) (aw_wS 1 hG gw_5_13 gw_5_11 gw_0_7 gw_5_12 rfl rfl hd_Si_zBit ⟨Nat.le_of_ble_eq_true rfl, Nat.le_of_ble_eq_true rfl⟩) aw_p0 rfl rfl hl.1 rfl (lv_room (Nat.le_of_ble_eq_true rfl)) d_Si_schedule_101 ⟨Nat.le_of_ble_eq_true rfl, Nat.le_of_ble_eq_true rfl⟩).run) (fun x20 hx20 => ?_)
          refine lv_ixor hx hb d_Si_schedule_104 ?_
          refine lv_topi (fun x21 _ => ?_)
          refine lv_iconst (v := nI 3) hx hb d_Si_schedule_105 (by decide +kernel) ?_
          refine lv_ixor hx hb d_Si_schedule_106 ?_
          refine lv_topi (fun x22 _ => ?_)
          obtain ⟨f24, he23⟩ := rd_C11 hSh hj
          refine aw_istI hx hb hK hP hD hS (3 + 16 * j + 11) 0 he23 rfl (k := (4 + t)) (by omega) (by decide) d_Si_schedule_107 (wr_C11 hSh hj _) (fun H locs L hP hD hSh hS => ?_)
          refine lv_iinc (k := 4) (v := nI (4 + t + 1)) hx hb d_Si_schedule_108 hl rfl (aw_inc (4 + t) 1 1 (by decide +kernel)) (by decide) rfl (fun ls hl => ?_)
          have hl : lv_has ls 7 [(5, .int (nI (4 + t + 1))), (6, .int x12), (0, .ref (aw_c ad j 10)), (1, .long a), (3, .long b)] := hl
          refine lv_goto (tgt := 34) hx hb d_Si_schedule_111 (by decide) ?_
          have hl := lv_sub hl (l' := [(0, .ref (aw_c ad j 10)), (1, .long a), (3, .long b), (5, .int (nI (4 + t + 1)))]) [2, 3, 4, 0] rfl
          exact ih (t + 1)  H locs L ls (by omega) hP hD hSh hS (by first | exact hl | simpa [Nat.add_assoc, Nat.mul_add, Nat.add_comm] using hl)
      have hl := lv_sub hl (l' := [(0, .ref (aw_c ad j 10)), (1, .long a), (3, .long b), (5, .int (nI 4))]) [1, 2, 3, 0] rfl
      exact L34 40 0  _ _ _ ls (by omega) hP hD hSh hS (by first | exact hl | simpa using hl)
    | succ d ih => 
      intro t  H locs L ls ht0 hP hD hSh hS hl
      refine lv_iload hx hb d_Si_schedule_3 (lv_at hl 3 rfl) ?_
      refine lv_iconst (v := nI 4) hx hb d_Si_schedule_5 (by decide +kernel) ?_
      refine lv_icmp_ge (tgt := 31) hx hb d_Si_schedule_6 (by decide) (fun h => absurd h (show ¬ nI 4 ≤ nI t from fun h9 => absurd ((nI_leI (by omega) (by omega)).mp h9) (by omega))) (fun _ => ?_)
      refine lv_aload_n hx hb d_Si_schedule_9 rfl (lv_at hl 0 rfl) ?_
      have he25 := rd_C10 hSh hj
      refine va_get (C := R_Si) (T := T_Si) (N := 1) (v := .ref (aw_c ad j 11)) hx hb hG in_Si hown hK hP (3 + 16 * j + 10) he25 rfl 0 (by decide) (hG _ gw_0_42) (fun x9 h9 => u_same (hG _ gw_0_43) x9 h9) rfl d_Si_schedule_10 ?_
      refine lv_iconst (v := nI 3) hx hb d_Si_schedule_13 (by decide +kernel) ?_
      refine lv_iload hx hb d_Si_schedule_14 (lv_at hl 3 rfl) ?_
      refine lv_isub hx hb d_Si_schedule_16 ?_
      refine aw_ti (pk_sub (a := 3) (b := t) (by omega)) ?_
      refine lv_lload_n hx hb d_Si_schedule_17 rfl (lv_at hl 1 rfl) ?_
      refine lv_lload_n hx hb d_Si_schedule_18 rfl (lv_at hl 2 rfl) ?_
      refine lv_iload hx hb d_Si_schedule_19 (lv_at hl 3 rfl) ?_
      refine aw_ci ((va_runSN (As := [.long a, .long b, .int (nI t)]) (rest := [.int (nI (3 - t)), .ref (aw_c ad j 11)]) ⟨hx, hb, hml, hown, hG⟩ (k_Ru_keyQuarter l a b (nI t)) (aw_wSN 3 hG hN gw_4_49 nw_15 gw_0_1 gw_4_48 rfl rfl hd_Ru_keyQuarter ⟨Nat.le_of_ble_eq_true rfl, Nat.le_of_ble_eq_true rfl⟩) aw_p0 rfl rfl hl.1 rfl (lv_room (Nat.le_of_ble_eq_true rfl)) d_Si_schedule_21 ⟨Nat.le_of_ble_eq_true rfl, Nat.le_of_ble_eq_true rfl⟩).run) (fun x26 hx26 => ?_)
      obtain ⟨f28, he27⟩ := rd_C11 hSh hj
      refine aw_istI hx hb hK hP hD hS (3 + 16 * j + 11) 0 he27 rfl (k := (3 - t)) (by omega) (by decide) d_Si_schedule_24 (wr_C11 hSh hj _) (fun H locs L hP hD hSh hS => ?_)
      refine lv_iinc (k := 3) (v := nI (t + 1)) hx hb d_Si_schedule_25 hl rfl (aw_inc t 1 1 (by decide +kernel)) (by decide) rfl (fun ls hl => ?_)
      have hl : lv_has ls 7 [(5, .int (nI (t + 1))), (0, .ref (aw_c ad j 10)), (1, .long a), (3, .long b)] := hl
      refine lv_goto (tgt := 3) hx hb d_Si_schedule_28 (by decide) ?_
      have hl := lv_sub hl (l' := [(0, .ref (aw_c ad j 10)), (1, .long a), (3, .long b), (5, .int (nI (t + 1)))]) [1, 2, 3, 0] rfl
      exact ih (t + 1)  H locs L ls (by omega) hP hD hSh hS (by first | exact hl | simpa [Nat.add_assoc, Nat.mul_add, Nat.add_comm] using hl)
  have hl := lv_sub hl (l' := [(0, .ref (aw_c ad j 10)), (1, .long a), (3, .long b), (5, .int (nI 0))]) [1, 2, 3, 0] rfl
  exact L3 4 0  _ _ _ ls (by omega) hP hD hSh hS (by first | exact hl | simpa using hl)
abbrev ws_Id_schedule : List Cond := Cond.code y_Id_schedule b_Id_schedule 13 none :: aw_G
abbrev rm_Id_schedule : Room := { frames := 2, cells := 0, slots := 0, locals := 45 }
set_option maxHeartbeats 4000000 in
set_option maxRecDepth 100000 in
theorem k_Id_schedule (l : Launch) (D : va_G) (g : Nat → ClassId) (ad : Nat → Nat) (G M : Nat → Nat × Nat) (F : Int32) (N0 : Nat) (j : Nat) (a : Int64) (b : Int64) (hj : j < 4) : Met l y_Id_schedule ws_Id_schedule rm_Id_schedule (va_Pc ([.ref (aw_c ad j 12), .long a, .long b] : List Value) (aw_B D g ad G M F N0)) (va_Qv (fun (_ : Unit) => True) (fun (_ : Unit) t => aw_H D g ad G M F N0 t.heap) (aw_Z N0)) 0 0 (aw_Z N0) := by
  refine Met.ofW (cc := b_Id_schedule) (maxL := 13) (ret := none) (by decide) rfl ?_
  intro p e s m args below meth c s₁ B hml hv
  obtain ⟨rfl, ⟨L, hP, hD, hSh⟩, hU⟩ := hv
  have hx := B.exec
  have hb := B.bytes
  have hr := B.returns
  have hG : ∀ w ∈ aw_G, w.before _ s = true := fun w h => atoms_spec (ws := ws_Id_schedule) B.pre w (List.mem_cons_of_mem _ h)
  have hown : s.vm.findClass "RuleCiphers$Idea" = some m.cls := findClass_of_methodNamed B.named
  have hlocks := B.notSynchronized
  have hE := hU.1
  have hK := hE.1
  have hN := hE.2.1
  have hS : va_S (aw_Z N0) s.heap s.heap [] := va_S.rf
  have hl := lv_entry ([.ref (aw_c ad j 12), .long a, .long b] : List Value) (n := 13) (Nat.le_of_ble_eq_true rfl)
  rw [lg_entry_eq]
  generalize (lg_sl ([.ref (aw_c ad j 12), .long a, .long b] : List Value) ++ List.replicate (13 - (lg_sl ([.ref (aw_c ad j 12), .long a, .long b] : List Value)).length) Slot.unset).toArray = ls at hl ⊢
  have hl : lv_has ls 13 [(0, .ref (aw_c ad j 12)), (1, .long a), (3, .long b)] := hl
  refine lv_lload_n hx hb d_Id_schedule_0 rfl (lv_at hl 1 rfl) ?_
  refine lv_lstore hx hb d_Id_schedule_1 hl (by decide) rfl (fun ls hl => ?_)
  have hl : lv_has ls 13 [(5, .long a), (0, .ref (aw_c ad j 12)), (1, .long a), (3, .long b)] := hl
  refine lv_lload_n hx hb d_Id_schedule_3 rfl (lv_at hl 3 rfl) ?_
  refine lv_lstore hx hb d_Id_schedule_4 hl (by decide) rfl (fun ls hl => ?_)
  have hl : lv_has ls 13 [(7, .long b), (5, .long a), (0, .ref (aw_c ad j 12)), (1, .long a), (3, .long b)] := hl
  refine lv_iconst (v := nI 0) hx hb d_Id_schedule_6 (by decide +kernel) ?_
  refine lv_istore hx hb d_Id_schedule_7 hl (by decide) rfl (fun ls hl => ?_)
  have hl : lv_has ls 13 [(9, .int (nI 0)), (7, .long b), (5, .long a), (0, .ref (aw_c ad j 12)), (1, .long a), (3, .long b)] := hl
  have L9 : ∀ (d t : Nat) (y1 : Int64) (y2 : Int64) (H : Heap) (locs : List Loc) (L : va_W) (ls : Array Slot), t + d = 52 → va_P D aw_C L H → va_D (aw_Z N0) L → aw_Sh g ad G M F L → va_S (aw_Z N0) s.heap H locs → lv_has ls 13 [(0, .ref (aw_c ad j 12)), (1, .long a), (3, .long b), (5, .long y1), (7, .long y2), (9, .int (nI t))] → W p l e (headSpec ws_Id_schedule rm_Id_schedule).room s m ([.ref (aw_c ad j 12), .long a, .long b] : List Value).toArray below meth c H locs 0 0 (MQ below (va_Qv (fun (_ : Unit) => True) (fun (_ : Unit) t => aw_H D g ad G M F N0 t.heap) (aw_Z N0)) ([.ref (aw_c ad j 12), .long a, .long b] : List Value).toArray s 0 0 (aw_Z N0)) (F0 m 9 ls []) := by
    clear hP hD hSh hS
    clear hl
    intro d
    induction d with
    | zero => 
      intro t y1 y2 H locs L ls ht0 hP hD hSh hS hl
      refine lv_iload hx hb d_Id_schedule_9 (lv_at hl 5 rfl) ?_
      refine lv_bipush (v := nI 52) hx hb d_Id_schedule_11 (by decide +kernel) ?_
      refine lv_icmp_ge (tgt := 93) hx hb d_Id_schedule_13 (by decide) (fun _ => ?_) (fun h => absurd (show nI 52 ≤ nI t from (nI_leI (by omega) (by omega)).mpr (by omega)) h)
      refine lv_iconst (v := nI 0) hx hb d_Id_schedule_93 (by decide +kernel) ?_
      refine lv_istore hx hb d_Id_schedule_94 hl (by decide) rfl (fun ls hl => ?_)
      have hl : lv_has ls 13 [(9, .int (nI 0)), (0, .ref (aw_c ad j 12)), (1, .long a), (3, .long b), (5, .long y1), (7, .long y2)] := hl
      have L96 : ∀ (d t : Nat)  (H : Heap) (locs : List Loc) (L : va_W) (ls : Array Slot), t + d = 9 → va_P D aw_C L H → va_D (aw_Z N0) L → aw_Sh g ad G M F L → va_S (aw_Z N0) s.heap H locs → lv_has ls 13 [(0, .ref (aw_c ad j 12)), (1, .long a), (3, .long b), (5, .long y1), (7, .long y2), (9, .int (nI (6 * t)))] → W p l e (headSpec ws_Id_schedule rm_Id_schedule).room s m ([.ref (aw_c ad j 12), .long a, .long b] : List Value).toArray below meth c H locs 0 0 (MQ below (va_Qv (fun (_ : Unit) => True) (fun (_ : Unit) t => aw_H D g ad G M F N0 t.heap) (aw_Z N0)) ([.ref (aw_c ad j 12), .long a, .long b] : List Value).toArray s 0 0 (aw_Z N0)) (F0 m 96 ls []) := by
        clear hP hD hSh hS
        clear hl
        intro d
        induction d with
        | zero => 
          intro t  H locs L ls ht0 hP hD hSh hS hl
          refine lv_iload hx hb d_Id_schedule_96 (lv_at hl 5 rfl) ?_
          refine lv_bipush (v := nI 48) hx hb d_Id_schedule_98 (by decide +kernel) ?_
          refine lv_icmp_gt (tgt := 191) hx hb d_Id_schedule_100 (by decide) (fun _ => ?_) (fun h => absurd (show nI 48 < nI (6 * t) from (nI_ltI (by omega) (by omega)).mpr (by omega)) h)
          exact W.vret hx hb hr (fun t ht hW => ⟨⟨(), rfl, trivial, aw_Hr ht hP hD hSh⟩, hS.F ht⟩) hS.2.2 d_Id_schedule_191
        | succ d ih => 
          intro t  H locs L ls ht0 hP hD hSh hS hl
          refine lv_iload hx hb d_Id_schedule_96 (lv_at hl 5 rfl) ?_
          refine lv_bipush (v := nI 48) hx hb d_Id_schedule_98 (by decide +kernel) ?_
          refine lv_icmp_gt (tgt := 191) hx hb d_Id_schedule_100 (by decide) (fun h => absurd h (show ¬ nI 48 < nI (6 * t) from fun h9 => absurd ((nI_ltI (by omega) (by omega)).mp h9) (by omega))) (fun _ => ?_)
          refine lv_aload_n hx hb d_Id_schedule_103 rfl (lv_at hl 0 rfl) ?_
          have he3 := rd_C12 hSh hj
          refine va_get (C := R_Id) (T := T_Id) (N := 2) (v := .ref (aw_c ad j 14)) hx hb hG in_Id hown hK hP (3 + 16 * j + 12) he3 rfl 1 (by decide) (hG _ gw_1_31) (fun _ h => h) rfl d_Id_schedule_104 ?_
          refine lv_iload hx hb d_Id_schedule_107 (lv_at hl 5 rfl) ?_
          refine lv_aload_n hx hb d_Id_schedule_109 rfl (lv_at hl 0 rfl) ?_
          have he4 := rd_C12 hSh hj
          refine va_get (C := R_Id) (T := T_Id) (N := 2) (v := .ref (aw_c ad j 13)) hx hb hG in_Id hown hK hP (3 + 16 * j + 12) he4 rfl 0 (by decide) (hG _ gw_0_46) (fun x9 h9 => u_same (hG _ gw_0_47) x9 h9) rfl d_Id_schedule_110 ?_
          refine lv_iload hx hb d_Id_schedule_113 (lv_at hl 5 rfl) ?_
          obtain ⟨f6, he5⟩ := rd_C13 hSh hj
          refine aw_ild hx hb hK hP (3 + 16 * j + 13) 0 he5 rfl (k := (6 * t)) (by omega) (by decide) d_Id_schedule_115 ?_
          refine lv_topi (fun x7 _ => ?_)
          refine aw_ci ((va_runS (As := [.int x7]) (rest := [.int (nI (6 * t)), .ref (aw_c ad j 14)]) ⟨hx, hb, hml, hown, hG⟩ (k_Id_inverse l x7) (aw_wS 1 hG gw_4_39 gw_4_37 gw_0_8 gw_4_38 rfl rfl hd_Id_inverse ⟨Nat.le_of_ble_eq_true rfl, Nat.le_of_ble_eq_true rfl⟩) aw_p0 rfl rfl hl.1 rfl (lv_room (Nat.le_of_ble_eq_true rfl)) d_Id_schedule_116 ⟨Nat.le_of_ble_eq_true rfl, Nat.le_of_ble_eq_true rfl⟩).run) (fun x8 hx8 => ?_)
          obtain ⟨f10, he9⟩ := rd_C14 hSh hj
          refine aw_istI hx hb hK hP hD hS (3 + 16 * j + 14) 0 he9 rfl (k := (6 * t)) (by omega) (by decide) d_Id_schedule_119 (wr_C14 hSh hj _) (fun H locs L hP hD hSh hS => ?_)
          refine lv_aload_n hx hb d_Id_schedule_120 rfl (lv_at hl 0 rfl) ?_
          have he11 := rd_C12 hSh hj
          refine va_get (C := R_Id) (T := T_Id) (N := 2) (v := .ref (aw_c ad j 14)) hx hb hG in_Id hown hK hP (3 + 16 * j + 12) he11 rfl 1 (by decide) (hG _ gw_1_31) (fun _ h => h) rfl d_Id_schedule_121 ?_
          refine lv_iload hx hb d_Id_schedule_124 (lv_at hl 5 rfl) ?_
          refine lv_iconst (v := nI 1) hx hb d_Id_schedule_126 (by decide +kernel) ?_
          refine lv_iadd hx hb d_Id_schedule_127 ?_
          refine aw_ti (nI_add (6 * t) 1) ?_
          refine lv_aload_n hx hb d_Id_schedule_128 rfl (lv_at hl 0 rfl) ?_
          have he12 := rd_C12 hSh hj
          refine va_get (C := R_Id) (T := T_Id) (N := 2) (v := .ref (aw_c ad j 13)) hx hb hG in_Id hown hK hP (3 + 16 * j + 12) he12 rfl 0 (by decide) (hG _ gw_0_46) (fun x9 h9 => u_same (hG _ gw_0_47) x9 h9) rfl d_Id_schedule_129 ?_
          refine lv_iload hx hb d_Id_schedule_132 (lv_at hl 5 rfl) ?_
          refine lv_iconst (v := nI 1) hx hb d_Id_schedule_134 (by decide +kernel) ?_
          refine lv_iadd hx hb d_Id_schedule_135 ?_
          refine aw_ti (nI_add (6 * t) 1) ?_
          obtain ⟨f14, he13⟩ := rd_C13 hSh hj
          refine aw_ild hx hb hK hP (3 + 16 * j + 13) 0 he13 rfl (k := ((6 * t) + 1)) (by omega) (by decide) d_Id_schedule_136 ?_
          refine lv_topi (fun x15 _ => ?_)
          refine lv_ineg hx hb d_Id_schedule_137 ?_
          refine lv_topi (fun x16 _ => ?_)
          refine lv_ldc (v := 65535) hx hb hown (hG _ gw_4_36) d_Id_schedule_138 ?_
          refine lv_iand hx hb d_Id_schedule_140 ?_
          refine lv_topi (fun x17 _ => ?_)
          obtain ⟨f19, he18⟩ := rd_C14 hSh hj
          refine aw_istI hx hb hK hP hD hS (3 + 16 * j + 14) 0 he18 rfl (k := ((6 * t) + 1)) (by omega) (by decide) d_Id_schedule_141 (wr_C14 hSh hj _) (fun H locs L hP hD hSh hS => ?_)
          refine lv_aload_n hx hb d_Id_schedule_142 rfl (lv_at hl 0 rfl) ?_
          have he20 := rd_C12 hSh hj
          refine va_get (C := R_Id) (T := T_Id) (N := 2) (v := .ref (aw_c ad j 14)) hx hb hG in_Id hown hK hP (3 + 16 * j + 12) he20 rfl 1 (by decide) (hG _ gw_1_31) (fun _ h => h) rfl d_Id_schedule_143 ?_
          refine lv_iload hx hb d_Id_schedule_146 (lv_at hl 5 rfl) ?_
          refine lv_iconst (v := nI 2) hx hb d_Id_schedule_148 (by decide +kernel) ?_
          refine lv_iadd hx hb d_Id_schedule_149 ?_
          refine aw_ti (nI_add (6 * t) 2) ?_
          refine lv_aload_n hx hb d_Id_schedule_150 rfl (lv_at hl 0 rfl) ?_
          have he21 := rd_C12 hSh hj
          refine va_get (C := R_Id) (T := T_Id) (N := 2) (v := .ref (aw_c ad j 13)) hx hb hG in_Id hown hK hP (3 + 16 * j + 12) he21 rfl 0 (by decide) (hG _ gw_0_46) (fun x9 h9 => u_same (hG _ gw_0_47) x9 h9) rfl d_Id_schedule_151 ?_
          refine lv_iload hx hb d_Id_schedule_154 (lv_at hl 5 rfl) ?_
          refine lv_iconst (v := nI 2) hx hb d_Id_schedule_156 (by decide +kernel) ?_
          refine lv_iadd hx hb d_Id_schedule_157 ?_
          refine aw_ti (nI_add (6 * t) 2) ?_
          obtain ⟨f23, he22⟩ := rd_C13 hSh hj
          refine aw_ild hx hb hK hP (3 + 16 * j + 13) 0 he22 rfl (k := ((6 * t) + 2)) (by omega) (by decide) d_Id_schedule_158 ?_
          refine lv_topi (fun x24 _ => ?_)
          refine lv_ineg hx hb d_Id_schedule_159 ?_
          refine lv_topi (fun x25 _ => ?_)
          refine lv_ldc (v := 65535) hx hb hown (hG _ gw_4_36) d_Id_schedule_160 ?_
          refine lv_iand hx hb d_Id_schedule_162 ?_
          refine lv_topi (fun x26 _ => ?_)
          obtain ⟨f28, he27⟩ := rd_C14 hSh hj
          refine aw_istI hx hb hK hP hD hS (3 + 16 * j + 14) 0 he27 rfl (k := ((6 * t) + 2)) (by omega) (by decide) d_Id_schedule_163 (wr_C14 hSh hj _) (fun H locs L hP hD hSh hS => ?_)
          refine lv_aload_n hx hb d_Id_schedule_164 rfl (lv_at hl 0 rfl) ?_
          have he29 := rd_C12 hSh hj
          refine va_get (C := R_Id) (T := T_Id) (N := 2) (v := .ref (aw_c ad j 14)) hx hb hG in_Id hown hK hP (3 + 16 * j + 12) he29 rfl 1 (by decide) (hG _ gw_1_31) (fun _ h => h) rfl d_Id_schedule_165 ?_
          refine lv_iload hx hb d_Id_schedule_168 (lv_at hl 5 rfl) ?_
          refine lv_iconst (v := nI 3) hx hb d_Id_schedule_170 (by decide +kernel) ?_
          refine lv_iadd hx hb d_Id_schedule_171 ?_
          refine aw_ti (nI_add (6 * t) 3) ?_
          refine lv_aload_n hx hb d_Id_schedule_172 rfl (lv_at hl 0 rfl) ?_
          have he30 := rd_C12 hSh hj
          refine va_get (C := R_Id) (T := T_Id) (N := 2) (v := .ref (aw_c ad j 13)) hx hb hG in_Id hown hK hP (3 + 16 * j + 12) he30 rfl 0 (by decide) (hG _ gw_0_46) (fun x9 h9 => u_same (hG _ gw_0_47) x9 h9) rfl d_Id_schedule_173 ?_
          refine lv_iload hx hb d_Id_schedule_176 (lv_at hl 5 rfl) ?_
          refine lv_iconst (v := nI 3) hx hb d_Id_schedule_178 (by decide +kernel) ?_
          refine lv_iadd hx hb d_Id_schedule_179 ?_
          refine aw_ti (nI_add (6 * t) 3) ?_
          obtain ⟨f32, he31⟩ := rd_C13 hSh hj
          refine aw_ild hx hb hK hP (3 + 16 * j + 13) 0 he31 rfl (k := ((6 * t) + 3)) (by omega) (by decide) d_Id_schedule_180 ?_
          refine lv_topi (fun x33 _ => ?_)
          refine aw_ci ((va_runS (As := [.int x33]) (rest := [.int (nI ((6 * t) + 3)), .ref (aw_c ad j 14)]) ⟨hx, hb, hml, hown, hG⟩ (k_Id_inverse l x33) (aw_wS 1 hG gw_4_39 gw_4_37 gw_0_8 gw_4_38 rfl rfl hd_Id_inverse ⟨Nat.le_of_ble_eq_true rfl, Nat.le_of_ble_eq_true rfl⟩) aw_p0 rfl rfl hl.1 rfl (lv_room (Nat.le_of_ble_eq_true rfl)) d_Id_schedule_181 ⟨Nat.le_of_ble_eq_true rfl, Nat.le_of_ble_eq_true rfl⟩).run) (fun x34 hx34 => ?_)
          obtain ⟨f36, he35⟩ := rd_C14 hSh hj
          refine aw_istI hx hb hK hP hD hS (3 + 16 * j + 14) 0 he35 rfl (k := ((6 * t) + 3)) (by omega) (by decide) d_Id_schedule_184 (wr_C14 hSh hj _) (fun H locs L hP hD hSh hS => ?_)
          refine lv_iinc (k := 5) (v := nI (6 * t + 6)) hx hb d_Id_schedule_185 hl rfl (aw_inc (6 * t) 6 6 (by decide +kernel)) (by decide) rfl (fun ls hl => ?_)
          have hl : lv_has ls 13 [(9, .int (nI (6 * t + 6))), (0, .ref (aw_c ad j 12)), (1, .long a), (3, .long b), (5, .long y1), (7, .long y2)] := hl
          refine lv_goto (tgt := 96) hx hb d_Id_schedule_188 (by decide) ?_
          have hl := lv_sub hl (l' := [(0, .ref (aw_c ad j 12)), (1, .long a), (3, .long b), (5, .long y1), (7, .long y2), (9, .int (nI (6 * t + 6)))]) [1, 2, 3, 4, 5, 0] rfl
          exact ih (t + 1)  H locs L ls (by omega) hP hD hSh hS (by first | exact hl | simpa [Nat.add_assoc, Nat.mul_add, Nat.add_comm] using hl)
      have hl := lv_sub hl (l' := [(0, .ref (aw_c ad j 12)), (1, .long a), (3, .long b), (5, .long y1), (7, .long y2), (9, .int (nI 0))]) [1, 2, 3, 4, 5, 0] rfl
      exact L96 9 0  _ _ _ ls (by omega) hP hD hSh hS (by first | exact hl | simpa using hl)
    | succ d ih => 
      intro t y1 y2 H locs L ls ht0 hP hD hSh hS hl
      refine lv_iload hx hb d_Id_schedule_9 (lv_at hl 5 rfl) ?_
      refine lv_bipush (v := nI 52) hx hb d_Id_schedule_11 (by decide +kernel) ?_
      refine lv_icmp_ge (tgt := 93) hx hb d_Id_schedule_13 (by decide) (fun h => absurd h (show ¬ nI 52 ≤ nI t from fun h9 => absurd ((nI_leI (by omega) (by omega)).mp h9) (by omega))) (fun _ => ?_)
      refine lv_iload hx hb d_Id_schedule_16 (lv_at hl 5 rfl) ?_
      refine lv_bipush (v := nI 8) hx hb d_Id_schedule_18 (by decide +kernel) ?_
      refine lv_irem hx hb d_Id_schedule_20 (by decide +kernel) ?_
      refine aw_ti (pk_rem (a := t) (d := 8) (by omega) (by omega) (by omega)) ?_
      refine lv_istore hx hb d_Id_schedule_21 hl (by decide) rfl (fun ls hl => ?_)
      have hl : lv_has ls 13 [(10, .int (nI (t % 8))), (0, .ref (aw_c ad j 12)), (1, .long a), (3, .long b), (5, .long y1), (7, .long y2), (9, .int (nI t))] := hl
      refine lv_aload_n hx hb d_Id_schedule_23 rfl (lv_at hl 1 rfl) ?_
      have he37 := rd_C12 hSh hj
      refine va_get (C := R_Id) (T := T_Id) (N := 2) (v := .ref (aw_c ad j 13)) hx hb hG in_Id hown hK hP (3 + 16 * j + 12) he37 rfl 0 (by decide) (hG _ gw_0_46) (fun x9 h9 => u_same (hG _ gw_0_47) x9 h9) rfl d_Id_schedule_24 ?_
      refine lv_iload hx hb d_Id_schedule_27 (lv_at hl 6 rfl) ?_
      refine lv_iload hx hb d_Id_schedule_29 (lv_at hl 0 rfl) ?_
      refine lv_iconst (v := nI 4) hx hb d_Id_schedule_31 (by decide +kernel) ?_
      refine lv_icmp_ge (tgt := 40) hx hb d_Id_schedule_32 (by decide) (fun hb38 => ?_) (fun hb38 => ?_)
      · have hb38 : 4 ≤ t % 8 := (nI_leI (by omega) (by omega)).mp hb38
        refine lv_lload hx hb d_Id_schedule_40 (lv_at hl 5 rfl) ?_
        refine lv_iload hx hb d_Id_schedule_42 (lv_at hl 0 rfl) ?_
        refine lv_iconst (v := nI 4) hx hb d_Id_schedule_44 (by decide +kernel) ?_
        refine lv_irem hx hb d_Id_schedule_45 (by decide +kernel) ?_
        refine aw_ti (pk_rem (a := (t % 8)) (d := 4) (by omega) (by omega) (by omega)) ?_
        refine aw_ci ((va_runS (As := [.long y2, .int (nI ((t % 8) % 4))]) (rest := [.int (nI t), .ref (aw_c ad j 13)]) ⟨hx, hb, hml, hown, hG⟩ (k_Id_quarterOf l y2 (nI ((t % 8) % 4))) (aw_wS 2 hG gw_4_35 gw_4_33 gw_0_8 gw_4_34 rfl rfl hd_Id_quarterOf ⟨Nat.le_of_ble_eq_true rfl, Nat.le_of_ble_eq_true rfl⟩) aw_p0 rfl rfl hl.1 rfl (lv_room (Nat.le_of_ble_eq_true rfl)) d_Id_schedule_46 ⟨Nat.le_of_ble_eq_true rfl, Nat.le_of_ble_eq_true rfl⟩).run) (fun x39 hx39 => ?_)
        obtain ⟨f41, he40⟩ := rd_C13 hSh hj
        refine aw_istI hx hb hK hP hD hS (3 + 16 * j + 13) 0 he40 rfl (k := t) (by omega) (by decide) d_Id_schedule_49 (wr_C13 hSh hj _) (fun H locs L hP hD hSh hS => ?_)
        refine lv_iload hx hb d_Id_schedule_50 (lv_at hl 0 rfl) ?_
        refine lv_bipush (v := nI 7) hx hb d_Id_schedule_52 (by decide +kernel) ?_
        refine lv_icmp_ne (tgt := 87) hx hb d_Id_schedule_54 (by decide) (fun hb42 => ?_) (fun hb42 => ?_)
        · have hb42 : ¬ t % 8 = 7 := fun z => absurd ((nI_eq (by omega) (by omega)).mpr z) hb42
          refine lv_iinc (k := 6) (v := nI (t + 1)) hx hb d_Id_schedule_87 hl rfl (aw_inc t 1 1 (by decide +kernel)) (by decide) rfl (fun ls hl => ?_)
          have hl : lv_has ls 13 [(9, .int (nI (t + 1))), (10, .int (nI (t % 8))), (0, .ref (aw_c ad j 12)), (1, .long a), (3, .long b), (5, .long y1), (7, .long y2)] := hl
          refine lv_goto (tgt := 9) hx hb d_Id_schedule_90 (by decide) ?_
          have hl := lv_sub hl (l' := [(0, .ref (aw_c ad j 12)), (1, .long a), (3, .long b), (5, .long y1), (7, .long y2), (9, .int (nI (t + 1)))]) [2, 3, 4, 5, 6, 0] rfl
          exact ih (t + 1) y1 y2 H locs L ls (by omega) hP hD hSh hS (by first | exact hl | simpa [Nat.add_assoc, Nat.mul_add, Nat.add_comm] using hl)
        · have hb42 : t % 8 = 7 := (nI_eq (by omega) (by omega)).mp hb42
          refine lv_lload hx hb d_Id_schedule_57 (lv_at hl 4 rfl) ?_
          refine lv_lstore hx hb d_Id_schedule_59 hl (by decide) rfl (fun ls hl => ?_)
          have hl : lv_has ls 13 [(11, .long y1), (10, .int (nI (t % 8))), (0, .ref (aw_c ad j 12)), (1, .long a), (3, .long b), (5, .long y1), (7, .long y2), (9, .int (nI t))] := hl
          refine lv_lload hx hb d_Id_schedule_61 (lv_at hl 5 rfl) ?_
          refine lv_bipush (v := nI 25) hx hb d_Id_schedule_63 (by decide +kernel) ?_
          refine lv_lshl hx hb d_Id_schedule_65 rfl ?_
          refine lv_topl (fun y43 _ => ?_)
          refine lv_lload hx hb d_Id_schedule_66 (lv_at hl 6 rfl) ?_
          refine lv_bipush (v := nI 39) hx hb d_Id_schedule_68 (by decide +kernel) ?_
          refine lv_lushr hx hb d_Id_schedule_70 rfl ?_
          refine lv_topl (fun y44 _ => ?_)
          refine lv_lor hx hb d_Id_schedule_71 ?_
          refine lv_topl (fun y45 _ => ?_)
          refine lv_lstore hx hb d_Id_schedule_72 hl (by decide) rfl (fun ls hl => ?_)
          have hl : lv_has ls 13 [(5, .long y45), (11, .long y1), (10, .int (nI (t % 8))), (0, .ref (aw_c ad j 12)), (1, .long a), (3, .long b), (7, .long y2), (9, .int (nI t))] := hl
          refine lv_lload hx hb d_Id_schedule_74 (lv_at hl 6 rfl) ?_
          refine lv_bipush (v := nI 25) hx hb d_Id_schedule_76 (by decide +kernel) ?_
          refine lv_lshl hx hb d_Id_schedule_78 rfl ?_
          refine lv_topl (fun y46 _ => ?_)
          refine lv_lload hx hb d_Id_schedule_79 (lv_at hl 1 rfl) ?_
          refine lv_bipush (v := nI 39) hx hb d_Id_schedule_81 (by decide +kernel) ?_
          refine lv_lushr hx hb d_Id_schedule_83 rfl ?_
          refine lv_topl (fun y47 _ => ?_)
          refine lv_lor hx hb d_Id_schedule_84 ?_
          refine lv_topl (fun y48 _ => ?_)
          refine lv_lstore hx hb d_Id_schedule_85 hl (by decide) rfl (fun ls hl => ?_)
          have hl : lv_has ls 13 [(7, .long y48), (5, .long y45), (11, .long y1), (10, .int (nI (t % 8))), (0, .ref (aw_c ad j 12)), (1, .long a), (3, .long b), (9, .int (nI t))] := hl
          refine lv_iinc (k := 7) (v := nI (t + 1)) hx hb d_Id_schedule_87 hl rfl (aw_inc t 1 1 (by decide +kernel)) (by decide) rfl (fun ls hl => ?_)
          have hl : lv_has ls 13 [(9, .int (nI (t + 1))), (7, .long y48), (5, .long y45), (11, .long y1), (10, .int (nI (t % 8))), (0, .ref (aw_c ad j 12)), (1, .long a), (3, .long b)] := hl
          refine lv_goto (tgt := 9) hx hb d_Id_schedule_90 (by decide) ?_
          have hl := lv_sub hl (l' := [(0, .ref (aw_c ad j 12)), (1, .long a), (3, .long b), (5, .long y45), (7, .long y48), (9, .int (nI (t + 1)))]) [5, 6, 7, 2, 1, 0] rfl
          exact ih (t + 1) y45 y48 H locs L ls (by omega) hP hD hSh hS (by first | exact hl | simpa [Nat.add_assoc, Nat.mul_add, Nat.add_comm] using hl)
      · have hb38 : ¬ 4 ≤ t % 8 := fun z => absurd ((nI_leI (by omega) (by omega)).mpr z) hb38
        refine lv_lload hx hb d_Id_schedule_35 (lv_at hl 4 rfl) ?_
        refine lv_goto (tgt := 42) hx hb d_Id_schedule_37 (by decide) ?_
        refine lv_iload hx hb d_Id_schedule_42 (lv_at hl 0 rfl) ?_
        refine lv_iconst (v := nI 4) hx hb d_Id_schedule_44 (by decide +kernel) ?_
        refine lv_irem hx hb d_Id_schedule_45 (by decide +kernel) ?_
        refine aw_ti (pk_rem (a := (t % 8)) (d := 4) (by omega) (by omega) (by omega)) ?_
        refine aw_ci ((va_runS (As := [.long y1, .int (nI ((t % 8) % 4))]) (rest := [.int (nI t), .ref (aw_c ad j 13)]) ⟨hx, hb, hml, hown, hG⟩ (k_Id_quarterOf l y1 (nI ((t % 8) % 4))) (aw_wS 2 hG gw_4_35 gw_4_33 gw_0_8 gw_4_34 rfl rfl hd_Id_quarterOf ⟨Nat.le_of_ble_eq_true rfl, Nat.le_of_ble_eq_true rfl⟩) aw_p0 rfl rfl hl.1 rfl (lv_room (Nat.le_of_ble_eq_true rfl)) d_Id_schedule_46 ⟨Nat.le_of_ble_eq_true rfl, Nat.le_of_ble_eq_true rfl⟩).run) (fun x49 hx49 => ?_)
        obtain ⟨f51, he50⟩ := rd_C13 hSh hj
        refine aw_istI hx hb hK hP hD hS (3 + 16 * j + 13) 0 he50 rfl (k := t) (by omega) (by decide) d_Id_schedule_49 (wr_C13 hSh hj _) (fun H locs L hP hD hSh hS => ?_)
        refine lv_iload hx hb d_Id_schedule_50 (lv_at hl 0 rfl) ?_
        refine lv_bipush (v := nI 7) hx hb d_Id_schedule_52 (by decide +kernel) ?_
        refine lv_icmp_ne (tgt := 87) hx hb d_Id_schedule_54 (by decide) (fun _ => ?_) (fun h => absurd h (show ¬ nI (t % 8) = nI 7 from fun h9 => absurd ((nI_eq (by omega) (by omega)).mp h9) (by omega)))
        refine lv_iinc (k := 6) (v := nI (t + 1)) hx hb d_Id_schedule_87 hl rfl (aw_inc t 1 1 (by decide +kernel)) (by decide) rfl (fun ls hl => ?_)
        have hl : lv_has ls 13 [(9, .int (nI (t + 1))), (10, .int (nI (t % 8))), (0, .ref (aw_c ad j 12)), (1, .long a), (3, .long b), (5, .long y1), (7, .long y2)] := hl
        refine lv_goto (tgt := 9) hx hb d_Id_schedule_90 (by decide) ?_
        have hl := lv_sub hl (l' := [(0, .ref (aw_c ad j 12)), (1, .long a), (3, .long b), (5, .long y1), (7, .long y2), (9, .int (nI (t + 1)))]) [2, 3, 4, 5, 6, 0] rfl
        exact ih (t + 1) y1 y2 H locs L ls (by omega) hP hD hSh hS (by first | exact hl | simpa [Nat.add_assoc, Nat.mul_add, Nat.add_comm] using hl)
  have hl := lv_sub hl (l' := [(0, .ref (aw_c ad j 12)), (1, .long a), (3, .long b), (5, .long a), (7, .long b), (9, .int (nI 0))]) [3, 4, 5, 2, 1, 0] rfl
  exact L9 52 0 a b _ _ _ ls (by omega) hP hD hSh hS (by first | exact hl | simpa using hl)
