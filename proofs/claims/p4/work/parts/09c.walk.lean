def aw_rw (g : Nat → ClassId) (q0 q1 q2 : Nat) (c0 c1 c2 c3 : Nat → Nat) (f0 f1 f2 f3 : Nat → Option Nat) : va_W := [(q0, .inr (0, [.ref q1, .ref q2])), (q1, .inl (g 3, 4, .inr (.inr (.inr (.inr (va_up (va_up (va_up (va_up (fun _ => none) 0 (some (c0 0))) 1 (some (c1 0))) 2 (some (c2 0))) 3 (some (c3 0)))))))), (q2, .inl (g 0, 64, .inl (fun _ => 0)))] ++ (aw_cx g c0 f0 ++ (aw_cx g c1 f1 ++ (aw_cx g c2 f2 ++ aw_cx g c3 f3)))
theorem aw_rwE {g : Nat → ClassId} {L0 : va_W} {q0 q1 q2 : Nat} {c0 c1 c2 c3 : Nat → Nat} {f0 f1 f2 f3 : Nat → Option Nat} : (L0 ++ (([(q0, .inr (0, [.ref q1, .ref q2])), (q1, .inl (g 3, 4, .inr (.inr (.inr (.inr (va_up (va_up (va_up (va_up (fun _ => none) 0 (some (c0 0))) 1 (some (c1 0))) 2 (some (c2 0))) 3 (some (c3 0)))))))), (q2, .inl (g 0, 64, .inl (fun _ => 0)))] : va_W) ++ (((([] ++ aw_cx g c0 f0) ++ aw_cx g c1 f1) ++ aw_cx g c2 f2) ++ aw_cx g c3 f3))) = L0 ++ aw_rw g q0 q1 q2 c0 c1 c2 c3 f0 f1 f2 f3 := by simp only [aw_rw, List.nil_append, List.append_assoc]
theorem aw_rwP {D : va_G} {g : Nat → ClassId} {L0 : va_W} {q0 q1 q2 : Nat} {c0 c1 c2 c3 : Nat → Nat} {f0 f1 f2 f3 : Nat → Option Nat} {H : Heap} (h : va_P D aw_C (L0 ++ (([(q0, .inr (0, [.ref q1, .ref q2])), (q1, .inl (g 3, 4, .inr (.inr (.inr (.inr (va_up (va_up (va_up (va_up (fun _ => none) 0 (some (c0 0))) 1 (some (c1 0))) 2 (some (c2 0))) 3 (some (c3 0)))))))), (q2, .inl (g 0, 64, .inl (fun _ => 0)))] : va_W) ++ (((([] ++ aw_cx g c0 f0) ++ aw_cx g c1 f1) ++ aw_cx g c2 f2) ++ aw_cx g c3 f3))) H) : va_P D aw_C (L0 ++ aw_rw g q0 q1 q2 c0 c1 c2 c3 f0 f1 f2 f3) H := by rw [← aw_rwE]; exact h
theorem aw_rwD {g : Nat → ClassId} {N0 : Nat} {L0 : va_W} {q0 q1 q2 : Nat} {c0 c1 c2 c3 : Nat → Nat} {f0 f1 f2 f3 : Nat → Option Nat} (h : va_D (aw_Z N0) (L0 ++ (([(q0, .inr (0, [.ref q1, .ref q2])), (q1, .inl (g 3, 4, .inr (.inr (.inr (.inr (va_up (va_up (va_up (va_up (fun _ => none) 0 (some (c0 0))) 1 (some (c1 0))) 2 (some (c2 0))) 3 (some (c3 0)))))))), (q2, .inl (g 0, 64, .inl (fun _ => 0)))] : va_W) ++ (((([] ++ aw_cx g c0 f0) ++ aw_cx g c1 f1) ++ aw_cx g c2 f2) ++ aw_cx g c3 f3)))) : va_D (aw_Z N0) (L0 ++ aw_rw g q0 q1 q2 c0 c1 c2 c3 f0 f1 f2 f3) := by rw [← aw_rwE]; exact h
abbrev ws_Ru_init : List Cond := Cond.code y_Ru_init b_Ru_init 2 none :: aw_G
abbrev rm_Ru_init : Room := { frames := 4, cells := 66, slots := 1024, locals := 85 }
set_option maxHeartbeats 4000000 in
set_option maxRecDepth 100000 in
theorem k_Ru_init (l : Launch) (D : va_G) (g : Nat → ClassId) (N0 : Nat) (L0 : va_W) (q0 : Nat) : Met l y_Ru_init ws_Ru_init rm_Ru_init (va_Pc ([.ref q0] : List Value) (aw_K D g N0 (L0 ++ [(q0, .inr (0, [.null, .null]))]))) (va_Qv (fun (_ : Unit) => True) (fun (_ : Unit) t => ∃ q1 : Nat, ∃ q2 : Nat, ∃ c0 : Nat → Nat, ∃ c1 : Nat → Nat, ∃ c2 : Nat → Nat, ∃ c3 : Nat → Nat, ∃ f0 : Nat → Option Nat, ∃ f1 : Nat → Option Nat, ∃ f2 : Nat → Option Nat, ∃ f3 : Nat → Option Nat, (f0 0 = some (c0 2) ∧ f0 1 = some (c0 5) ∧ f0 2 = some (c0 7) ∧ f0 3 = some (c0 10) ∧ f0 4 = some (c0 12)) ∧ (f1 0 = some (c1 2) ∧ f1 1 = some (c1 5) ∧ f1 2 = some (c1 7) ∧ f1 3 = some (c1 10) ∧ f1 4 = some (c1 12)) ∧ (f2 0 = some (c2 2) ∧ f2 1 = some (c2 5) ∧ f2 2 = some (c2 7) ∧ f2 3 = some (c2 10) ∧ f2 4 = some (c2 12)) ∧ (f3 0 = some (c3 2) ∧ f3 1 = some (c3 5) ∧ f3 2 = some (c3 7) ∧ f3 3 = some (c3 10) ∧ f3 4 = some (c3 12)) ∧ va_P D aw_C (L0 ++ aw_rw g q0 q1 q2 c0 c1 c2 c3 f0 f1 f2 f3) t.heap ∧ va_D (aw_Z N0) (L0 ++ aw_rw g q0 q1 q2 c0 c1 c2 c3 f0 f1 f2 f3)) (aw_Z N0)) 66 1024 (aw_Z N0) := by
  refine Met.ofW (cc := b_Ru_init) (maxL := 2) (ret := none) (by decide) rfl ?_
  intro p e s m args below meth c s₁ B hml hv
  obtain ⟨rfl, ⟨hP, hD⟩, hE, hC, hN0⟩ := hv
  have hx := B.exec
  have hb := B.bytes
  have hr := B.returns
  have hG : ∀ w ∈ aw_G, w.before _ s = true := fun w h => atoms_spec (ws := ws_Ru_init) B.pre w (List.mem_cons_of_mem _ h)
  have hown : s.vm.findClass "RuleCiphers" = some m.cls := findClass_of_methodNamed B.named
  have hlocks := B.notSynchronized
  have hin : meth.name = "<init>" := (name_of_methodNamed B.named B.method).1
  have hK := hE.1
  have hN := hE.2.1
  have hS : va_S (aw_Z N0) s.heap s.heap [] := va_S.rf
  have hA : ∀ q, s.heap.size ≤ q → aw_Z N0 q := fun q h => Nat.le_trans hN0 h
  have hl := lv_entry ([.ref q0] : List Value) (n := 2) (Nat.le_of_ble_eq_true rfl)
  rw [lg_entry_eq]
  generalize (lg_sl ([.ref q0] : List Value) ++ List.replicate (2 - (lg_sl ([.ref q0] : List Value)).length) Slot.unset).toArray = ls at hl ⊢
  have hl : lv_has ls 2 [(0, .ref q0)] := hl
  refine lv_aload_n hx hb d_Ru_init_0 rfl (lv_at hl 0 rfl) ?_
  refine W.objInit hx hb hown (hG _ gw_0_22) (hG _ gw_0_23) (hG _ gw_0_24) rfl (by rw [hml]; exact hl.1) rfl d_Ru_init_1 (Nat.le_of_ble_eq_true rfl) (Nat.le_of_ble_eq_true rfl) ?_
  refine W.eq (g2 := F0 m 4 ls []) rfl ?_
  refine lv_aload_n hx hb d_Ru_init_4 rfl (lv_at hl 0 rfl) ?_
  refine lv_iconst (v := nI 4) hx hb d_Ru_init_5 (by decide +kernel) ?_
  refine aw_kQ hx hb 3 hown (hG _ gw_0_25) hC.2.1 hE rfl hP hD hS hA (N := 4) (by decide) (Nat.le_of_ble_eq_true rfl) (Nat.le_of_ble_eq_true rfl) d_Ru_init_6 (fun q1 H hP hD hS => ?_)
  have hP : va_P D aw_C (L0 ++ [(q0, .inr (0, [.null, .null])), (q1, .inl (g 3, 4, .inr (.inr (.inr (.inr ((fun _ => none)))))))]) H := hP
  have hD : va_D (aw_Z N0) (L0 ++ [(q0, .inr (0, [.null, .null])), (q1, .inl (g 3, 4, .inr (.inr (.inr (.inr ((fun _ => none)))))))]) := hD
  refine aw_kF (v := .ref q1) (ty := (.array (.object "RuleCiphers$Context"))) (C := R_Ru) (TT := T_Ru) (N := 2) hx hb hG in_Ru t_Ru t_Ru_ok n_Ru hown hK hP hD hS 0 rfl rfl 0 (by decide) (hG _ gw_2_28) (fun _ h => h) rfl hin rfl (by decide +kernel) rfl rfl (Nat.le_of_ble_eq_true rfl) d_Ru_init_9 (fun H locs hP hD hS => ?_)
  have hP : va_P D aw_C (L0 ++ [(q0, .inr (0, [.ref q1, .null])), (q1, .inl (g 3, 4, .inr (.inr (.inr (.inr ((fun _ => none)))))))]) H := hP
  have hD : va_D (aw_Z N0) (L0 ++ [(q0, .inr (0, [.ref q1, .null])), (q1, .inl (g 3, 4, .inr (.inr (.inr (.inr ((fun _ => none)))))))]) := hD
  refine lv_aload_n hx hb d_Ru_init_12 rfl (lv_at hl 0 rfl) ?_
  refine lv_bipush (v := nI 64) hx hb d_Ru_init_13 (by decide +kernel) ?_
  refine aw_kI hx hb (hG _ gw_0_57) hE hP hD hS hA (N := 64) (by decide) (Nat.le_of_ble_eq_true rfl) (Nat.le_of_ble_eq_true rfl) d_Ru_init_15 (fun q2 H hP hD hS => ?_)
  have hP : va_P D aw_C (L0 ++ [(q0, .inr (0, [.ref q1, .null])), (q1, .inl (g 3, 4, .inr (.inr (.inr (.inr ((fun _ => none))))))), (q2, .inl (g 0, 64, .inl ((fun _ => 0))))]) H := hP
  have hD : va_D (aw_Z N0) (L0 ++ [(q0, .inr (0, [.ref q1, .null])), (q1, .inl (g 3, 4, .inr (.inr (.inr (.inr ((fun _ => none))))))), (q2, .inl (g 0, 64, .inl ((fun _ => 0))))]) := hD
  refine aw_kF (v := .ref q2) (ty := (.array .int)) (C := R_Ru) (TT := T_Ru) (N := 2) hx hb hG in_Ru t_Ru t_Ru_ok n_Ru hown hK hP hD hS 0 rfl rfl 1 (by decide) (hG _ gw_2_29) (fun _ h => h) rfl hin rfl (by decide +kernel) rfl rfl (Nat.le_of_ble_eq_true rfl) d_Ru_init_17 (fun H locs hP hD hS => ?_)
  have hP : va_P D aw_C (L0 ++ [(q0, .inr (0, [.ref q1, .ref q2])), (q1, .inl (g 3, 4, .inr (.inr (.inr (.inr ((fun _ => none))))))), (q2, .inl (g 0, 64, .inl ((fun _ => 0))))]) H := hP
  have hD : va_D (aw_Z N0) (L0 ++ [(q0, .inr (0, [.ref q1, .ref q2])), (q1, .inl (g 3, 4, .inr (.inr (.inr (.inr ((fun _ => none))))))), (q2, .inl (g 0, 64, .inl ((fun _ => 0))))]) := hD
  refine lv_iconst (v := nI 0) hx hb d_Ru_init_20 (by decide +kernel) ?_
  refine lv_istore_n hx hb d_Ru_init_21 rfl hl (by decide) rfl (fun ls hl => ?_)
  have hl : lv_has ls 2 [(1, .int (nI 0)), (0, .ref q0)] := hl
  refine lv_iload_n hx hb d_Ru_init_22 rfl (lv_at hl 0 rfl) ?_
  refine lv_iconst (v := nI 4) hx hb d_Ru_init_23 (by decide +kernel) ?_
  refine lv_icmp_ge (tgt := 46) hx hb d_Ru_init_24 (by decide) (fun h => absurd h (by decide +kernel)) (fun _ => ?_)
  refine lv_aload_n hx hb d_Ru_init_27 rfl (lv_at hl 1 rfl) ?_
  refine va_get (C := R_Ru) (T := T_Ru) (N := 2) (v := .ref q1) hx hb hG in_Ru hown hK hP (L0.length + 0) ((aw_ap L0 _ 0).trans rfl) rfl 0 (by decide) (hG _ gw_2_28) (fun _ h => h) rfl d_Ru_init_28 ?_
  refine lv_iload_n hx hb d_Ru_init_31 rfl (lv_at hl 0 rfl) ?_
  have hP : va_P D aw_C (L0 ++ ([(q0, .inr (0, [.ref q1, .ref q2])), (q1, .inl (g 3, 4, .inr (.inr (.inr (.inr ((fun _ => none))))))), (q2, .inl (g 0, 64, .inl ((fun _ => 0))))] ++ [])) H := hP
  have hD : va_D (aw_Z N0) (L0 ++ ([(q0, .inr (0, [.ref q1, .ref q2])), (q1, .inl (g 3, 4, .inr (.inr (.inr (.inr ((fun _ => none))))))), (q2, .inl (g 0, 64, .inl ((fun _ => 0))))] ++ [])) := hD
  refine aw_kN (C := R_Cx) (TT := T_Cx) (N := 10) (ci := 1) (fs := [.null, .null, .int 0, .int 0, .null, .long 0, .long 0, .long 0, .int 0, .int 0]) hx hb hG in_Cx t_Cx t_Cx_ok hown (hG _ gw_0_25) (hG _ gw_0_26) (hG _ gw_0_2) hK hP hD hS hA rfl (by decide +kernel) (Nat.le_of_ble_eq_true rfl) (Nat.le_of_ble_eq_true rfl) d_Ru_init_32 (fun q3 H hP hD hS => ?_)
  have hP : va_P D aw_C (L0 ++ (([(q0, .inr (0, [.ref q1, .ref q2])), (q1, .inl (g 3, 4, .inr (.inr (.inr (.inr ((fun _ => none))))))), (q2, .inl (g 0, 64, .inl ((fun _ => 0))))] ++ []) ++ [(q3, .inr (1, [.null, .null, .int 0, .int 0, .null, .long 0, .long 0, .long 0, .int 0, .int 0]))])) H := hP
  have hD : va_D (aw_Z N0) (L0 ++ (([(q0, .inr (0, [.ref q1, .ref q2])), (q1, .inl (g 3, 4, .inr (.inr (.inr (.inr ((fun _ => none))))))), (q2, .inl (g 0, 64, .inl ((fun _ => 0))))] ++ []) ++ [(q3, .inr (1, [.null, .null, .int 0, .int 0, .null, .long 0, .long 0, .long 0, .int 0, .int 0]))])) := hD
  refine lv_dup hx hb d_Ru_init_35 rfl ?_
  have hP : va_P D aw_C ((L0 ++ ([(q0, .inr (0, [.ref q1, .ref q2])), (q1, .inl (g 3, 4, .inr (.inr (.inr (.inr ((fun _ => none))))))), (q2, .inl (g 0, 64, .inl ((fun _ => 0))))] ++ [])) ++ [(q3, .inr (1, [.null, .null, .int 0, .int 0, .null, .long 0, .long 0, .long 0, .int 0, .int 0]))]) H := by rw [List.append_assoc]; exact hP
  have hD : va_D (aw_Z N0) ((L0 ++ ([(q0, .inr (0, [.ref q1, .ref q2])), (q1, .inl (g 3, 4, .inr (.inr (.inr (.inr ((fun _ => none))))))), (q2, .inl (g 0, 64, .inl ((fun _ => 0))))] ++ [])) ++ [(q3, .inr (1, [.null, .null, .int 0, .int 0, .null, .long 0, .long 0, .long 0, .int 0, .int 0]))]) := by rw [List.append_assoc]; exact hD
  refine va_callv (va_runIN (As := []) (rest := [.ref q3, .int (nI 0), .ref q1]) ⟨hx, hb, hml, hown, hG⟩ (k_Cx_init l D g N0 (L0 ++ ([(q0, .inr (0, [.ref q1, .ref q2])), (q1, .inl (g 3, 4, .inr (.inr (.inr (.inr ((fun _ => none))))))), (q2, .inl (g 0, 64, .inl ((fun _ => 0))))] ++ [])) q3) (aw_wIN 0 hG hN gw_0_28 nw_0 gw_0_2 gw_0_27 rfl rfl rfl hd_Cx_init ⟨Nat.le_of_ble_eq_true rfl, Nat.le_of_ble_eq_true rfl⟩) (aw_qK hP hD hE hC hN0 hS) rfl rfl hl.1 rfl (lv_room (Nat.le_of_ble_eq_true rfl)) d_Ru_init_36 ⟨Nat.le_of_ble_eq_true rfl, Nat.le_of_ble_eq_true rfl⟩) hS (fun _ _ h => h) (fun _ h => h) (fun u t H locs ht _ _ hB _ _ hS => ?_)
  obtain ⟨c4, f5, h6, hf7, hP8, hD8⟩ := hB
  rw [ht] at hP8
  clear ht
  subst h6
  rw [aw_asc] at hP8 hD8
  clear hP hD
  have hP := hP8
  have hD := hD8
  clear hP8 hD8
  have hP : va_P D aw_C (L0 ++ ([(q0, .inr (0, [.ref q1, .ref q2])), (q1, .inl (g 3, 4, .inr (.inr (.inr (.inr ((fun _ => none))))))), (q2, .inl (g 0, 64, .inl ((fun _ => 0))))] ++ ([] ++ aw_cx g c4 f5))) H := hP
  have hD : va_D (aw_Z N0) (L0 ++ ([(q0, .inr (0, [.ref q1, .ref q2])), (q1, .inl (g 3, 4, .inr (.inr (.inr (.inr ((fun _ => none))))))), (q2, .inl (g 0, 64, .inl ((fun _ => 0))))] ++ ([] ++ aw_cx g c4 f5))) := hD
  refine aw_kS hx hb hK hP hD hS 1 3 (3 + List.length []) 1 rfl rfl (aw_bk _ _ _ [] _ _) rfl (k := 0) (by decide) (by decide) d_Ru_init_39 (fun H locs hP hD hS => ?_)
  have hP : va_P D aw_C (L0 ++ ([(q0, .inr (0, [.ref q1, .ref q2])), (q1, .inl (g 3, 4, .inr (.inr (.inr (.inr ((va_up (fun _ => none) 0 (some (c4 0))))))))), (q2, .inl (g 0, 64, .inl ((fun _ => 0))))] ++ ([] ++ aw_cx g c4 f5))) H := hP
  have hD : va_D (aw_Z N0) (L0 ++ ([(q0, .inr (0, [.ref q1, .ref q2])), (q1, .inl (g 3, 4, .inr (.inr (.inr (.inr ((va_up (fun _ => none) 0 (some (c4 0))))))))), (q2, .inl (g 0, 64, .inl ((fun _ => 0))))] ++ ([] ++ aw_cx g c4 f5))) := hD
  refine lv_iinc (k := 0) (v := nI 1) hx hb d_Ru_init_40 hl rfl (by decide +kernel) (by decide) rfl (fun ls hl => ?_)
  have hl : lv_has ls 2 [(1, .int (nI 1)), (0, .ref q0)] := hl
  refine lv_goto (tgt := 22) hx hb d_Ru_init_43 (by decide) ?_
  refine lv_iload_n hx hb d_Ru_init_22 rfl (lv_at hl 0 rfl) ?_
  refine lv_iconst (v := nI 4) hx hb d_Ru_init_23 (by decide +kernel) ?_
  refine lv_icmp_ge (tgt := 46) hx hb d_Ru_init_24 (by decide) (fun h => absurd h (by decide +kernel)) (fun _ => ?_)
  refine lv_aload_n hx hb d_Ru_init_27 rfl (lv_at hl 1 rfl) ?_
  refine va_get (C := R_Ru) (T := T_Ru) (N := 2) (v := .ref q1) hx hb hG in_Ru hown hK hP (L0.length + 0) ((aw_ap L0 _ 0).trans rfl) rfl 0 (by decide) (hG _ gw_2_28) (fun _ h => h) rfl d_Ru_init_28 ?_
  refine lv_iload_n hx hb d_Ru_init_31 rfl (lv_at hl 0 rfl) ?_
  refine aw_kN (C := R_Cx) (TT := T_Cx) (N := 10) (ci := 1) (fs := [.null, .null, .int 0, .int 0, .null, .long 0, .long 0, .long 0, .int 0, .int 0]) hx hb hG in_Cx t_Cx t_Cx_ok hown (hG _ gw_0_25) (hG _ gw_0_26) (hG _ gw_0_2) hK hP hD hS hA rfl (by decide +kernel) (Nat.le_of_ble_eq_true rfl) (Nat.le_of_ble_eq_true rfl) d_Ru_init_32 (fun q8 H hP hD hS => ?_)
  have hP : va_P D aw_C (L0 ++ (([(q0, .inr (0, [.ref q1, .ref q2])), (q1, .inl (g 3, 4, .inr (.inr (.inr (.inr ((va_up (fun _ => none) 0 (some (c4 0))))))))), (q2, .inl (g 0, 64, .inl ((fun _ => 0))))] ++ ([] ++ aw_cx g c4 f5)) ++ [(q8, .inr (1, [.null, .null, .int 0, .int 0, .null, .long 0, .long 0, .long 0, .int 0, .int 0]))])) H := hP
  have hD : va_D (aw_Z N0) (L0 ++ (([(q0, .inr (0, [.ref q1, .ref q2])), (q1, .inl (g 3, 4, .inr (.inr (.inr (.inr ((va_up (fun _ => none) 0 (some (c4 0))))))))), (q2, .inl (g 0, 64, .inl ((fun _ => 0))))] ++ ([] ++ aw_cx g c4 f5)) ++ [(q8, .inr (1, [.null, .null, .int 0, .int 0, .null, .long 0, .long 0, .long 0, .int 0, .int 0]))])) := hD
  refine lv_dup hx hb d_Ru_init_35 rfl ?_
  have hP : va_P D aw_C ((L0 ++ ([(q0, .inr (0, [.ref q1, .ref q2])), (q1, .inl (g 3, 4, .inr (.inr (.inr (.inr ((va_up (fun _ => none) 0 (some (c4 0))))))))), (q2, .inl (g 0, 64, .inl ((fun _ => 0))))] ++ ([] ++ aw_cx g c4 f5))) ++ [(q8, .inr (1, [.null, .null, .int 0, .int 0, .null, .long 0, .long 0, .long 0, .int 0, .int 0]))]) H := by rw [List.append_assoc]; exact hP
  have hD : va_D (aw_Z N0) ((L0 ++ ([(q0, .inr (0, [.ref q1, .ref q2])), (q1, .inl (g 3, 4, .inr (.inr (.inr (.inr ((va_up (fun _ => none) 0 (some (c4 0))))))))), (q2, .inl (g 0, 64, .inl ((fun _ => 0))))] ++ ([] ++ aw_cx g c4 f5))) ++ [(q8, .inr (1, [.null, .null, .int 0, .int 0, .null, .long 0, .long 0, .long 0, .int 0, .int 0]))]) := by rw [List.append_assoc]; exact hD
  refine va_callv (va_runIN (As := []) (rest := [.ref q8, .int (nI 1), .ref q1]) ⟨hx, hb, hml, hown, hG⟩ (k_Cx_init l D g N0 (L0 ++ ([(q0, .inr (0, [.ref q1, .ref q2])), (q1, .inl (g 3, 4, .inr (.inr (.inr (.inr ((va_up (fun _ => none) 0 (some (c4 0))))))))), (q2, .inl (g 0, 64, .inl ((fun _ => 0))))] ++ ([] ++ aw_cx g c4 f5))) q8) (aw_wIN 0 hG hN gw_0_28 nw_0 gw_0_2 gw_0_27 rfl rfl rfl hd_Cx_init ⟨Nat.le_of_ble_eq_true rfl, Nat.le_of_ble_eq_true rfl⟩) (aw_qK hP hD hE hC hN0 hS) rfl rfl hl.1 rfl (lv_room (Nat.le_of_ble_eq_true rfl)) d_Ru_init_36 ⟨Nat.le_of_ble_eq_true rfl, Nat.le_of_ble_eq_true rfl⟩) hS (fun _ _ h => h) (fun _ h => h) (fun u t H locs ht _ _ hB _ _ hS => ?_)
  obtain ⟨c9, f10, h11, hf12, hP8, hD8⟩ := hB
  rw [ht] at hP8
  clear ht
  subst h11
  rw [aw_asc] at hP8 hD8
  clear hP hD
  have hP := hP8
  have hD := hD8
  clear hP8 hD8
  have hP : va_P D aw_C (L0 ++ ([(q0, .inr (0, [.ref q1, .ref q2])), (q1, .inl (g 3, 4, .inr (.inr (.inr (.inr ((va_up (fun _ => none) 0 (some (c4 0))))))))), (q2, .inl (g 0, 64, .inl ((fun _ => 0))))] ++ (([] ++ aw_cx g c4 f5) ++ aw_cx g c9 f10))) H := hP
  have hD : va_D (aw_Z N0) (L0 ++ ([(q0, .inr (0, [.ref q1, .ref q2])), (q1, .inl (g 3, 4, .inr (.inr (.inr (.inr ((va_up (fun _ => none) 0 (some (c4 0))))))))), (q2, .inl (g 0, 64, .inl ((fun _ => 0))))] ++ (([] ++ aw_cx g c4 f5) ++ aw_cx g c9 f10))) := hD
  refine aw_kS hx hb hK hP hD hS 1 3 (3 + List.length ([] ++ aw_cx g c4 f5)) 1 rfl rfl (aw_bk _ _ _ ([] ++ aw_cx g c4 f5) _ _) rfl (k := 1) (by decide) (by decide) d_Ru_init_39 (fun H locs hP hD hS => ?_)
  have hP : va_P D aw_C (L0 ++ ([(q0, .inr (0, [.ref q1, .ref q2])), (q1, .inl (g 3, 4, .inr (.inr (.inr (.inr ((va_up (va_up (fun _ => none) 0 (some (c4 0))) 1 (some (c9 0))))))))), (q2, .inl (g 0, 64, .inl ((fun _ => 0))))] ++ (([] ++ aw_cx g c4 f5) ++ aw_cx g c9 f10))) H := hP
  have hD : va_D (aw_Z N0) (L0 ++ ([(q0, .inr (0, [.ref q1, .ref q2])), (q1, .inl (g 3, 4, .inr (.inr (.inr (.inr ((va_up (va_up (fun _ => none) 0 (some (c4 0))) 1 (some (c9 0))))))))), (q2, .inl (g 0, 64, .inl ((fun _ => 0))))] ++ (([] ++ aw_cx g c4 f5) ++ aw_cx g c9 f10))) := hD
  refine lv_iinc (k := 0) (v := nI 2) hx hb d_Ru_init_40 hl rfl (by decide +kernel) (by decide) rfl (fun ls hl => ?_)
  have hl : lv_has ls 2 [(1, .int (nI 2)), (0, .ref q0)] := hl
  refine lv_goto (tgt := 22) hx hb d_Ru_init_43 (by decide) ?_
  refine lv_iload_n hx hb d_Ru_init_22 rfl (lv_at hl 0 rfl) ?_
  refine lv_iconst (v := nI 4) hx hb d_Ru_init_23 (by decide +kernel) ?_
  refine lv_icmp_ge (tgt := 46) hx hb d_Ru_init_24 (by decide) (fun h => absurd h (by decide +kernel)) (fun _ => ?_)
  refine lv_aload_n hx hb d_Ru_init_27 rfl (lv_at hl 1 rfl) ?_
  refine va_get (C := R_Ru) (T := T_Ru) (N := 2) (v := .ref q1) hx hb hG in_Ru hown hK hP (L0.length + 0) ((aw_ap L0 _ 0).trans rfl) rfl 0 (by decide) (hG _ gw_2_28) (fun _ h => h) rfl d_Ru_init_28 ?_
  refine lv_iload_n hx hb d_Ru_init_31 rfl (lv_at hl 0 rfl) ?_
  refine aw_kN (C := R_Cx) (TT := T_Cx) (N := 10) (ci := 1) (fs := [.null, .null, .int 0, .int 0, .null, .long 0, .long 0, .long 0, .int 0, .int 0]) hx hb hG in_Cx t_Cx t_Cx_ok hown (hG _ gw_0_25) (hG _ gw_0_26) (hG _ gw_0_2) hK hP hD hS hA rfl (by decide +kernel) (Nat.le_of_ble_eq_true rfl) (Nat.le_of_ble_eq_true rfl) d_Ru_init_32 (fun q13 H hP hD hS => ?_)
  have hP : va_P D aw_C (L0 ++ (([(q0, .inr (0, [.ref q1, .ref q2])), (q1, .inl (g 3, 4, .inr (.inr (.inr (.inr ((va_up (va_up (fun _ => none) 0 (some (c4 0))) 1 (some (c9 0))))))))), (q2, .inl (g 0, 64, .inl ((fun _ => 0))))] ++ (([] ++ aw_cx g c4 f5) ++ aw_cx g c9 f10)) ++ [(q13, .inr (1, [.null, .null, .int 0, .int 0, .null, .long 0, .long 0, .long 0, .int 0, .int 0]))])) H := hP
  have hD : va_D (aw_Z N0) (L0 ++ (([(q0, .inr (0, [.ref q1, .ref q2])), (q1, .inl (g 3, 4, .inr (.inr (.inr (.inr ((va_up (va_up (fun _ => none) 0 (some (c4 0))) 1 (some (c9 0))))))))), (q2, .inl (g 0, 64, .inl ((fun _ => 0))))] ++ (([] ++ aw_cx g c4 f5) ++ aw_cx g c9 f10)) ++ [(q13, .inr (1, [.null, .null, .int 0, .int 0, .null, .long 0, .long 0, .long 0, .int 0, .int 0]))])) := hD
  refine lv_dup hx hb d_Ru_init_35 rfl ?_
  have hP : va_P D aw_C ((L0 ++ ([(q0, .inr (0, [.ref q1, .ref q2])), (q1, .inl (g 3, 4, .inr (.inr (.inr (.inr ((va_up (va_up (fun _ => none) 0 (some (c4 0))) 1 (some (c9 0))))))))), (q2, .inl (g 0, 64, .inl ((fun _ => 0))))] ++ (([] ++ aw_cx g c4 f5) ++ aw_cx g c9 f10))) ++ [(q13, .inr (1, [.null, .null, .int 0, .int 0, .null, .long 0, .long 0, .long 0, .int 0, .int 0]))]) H := by rw [List.append_assoc]; exact hP
  have hD : va_D (aw_Z N0) ((L0 ++ ([(q0, .inr (0, [.ref q1, .ref q2])), (q1, .inl (g 3, 4, .inr (.inr (.inr (.inr ((va_up (va_up (fun _ => none) 0 (some (c4 0))) 1 (some (c9 0))))))))), (q2, .inl (g 0, 64, .inl ((fun _ => 0))))] ++ (([] ++ aw_cx g c4 f5) ++ aw_cx g c9 f10))) ++ [(q13, .inr (1, [.null, .null, .int 0, .int 0, .null, .long 0, .long 0, .long 0, .int 0, .int 0]))]) := by rw [List.append_assoc]; exact hD
  refine va_callv (va_runIN (As := []) (rest := [.ref q13, .int (nI 2), .ref q1]) ⟨hx, hb, hml, hown, hG⟩ (k_Cx_init l D g N0 (L0 ++ ([(q0, .inr (0, [.ref q1, .ref q2])), (q1, .inl (g 3, 4, .inr (.inr (.inr (.inr ((va_up (va_up (fun _ => none) 0 (some (c4 0))) 1 (some (c9 0))))))))), (q2, .inl (g 0, 64, .inl ((fun _ => 0))))] ++ (([] ++ aw_cx g c4 f5) ++ aw_cx g c9 f10))) q13) (aw_wIN 0 hG hN gw_0_28 nw_0 gw_0_2 gw_0_27 rfl rfl rfl hd_Cx_init ⟨Nat.le_of_ble_eq_true rfl, Nat.le_of_ble_eq_true rfl⟩) (aw_qK hP hD hE hC hN0 hS) rfl rfl hl.1 rfl (lv_room (Nat.le_of_ble_eq_true rfl)) d_Ru_init_36 ⟨Nat.le_of_ble_eq_true rfl, Nat.le_of_ble_eq_true rfl⟩) hS (fun _ _ h => h) (fun _ h => h) (fun u t H locs ht _ _ hB _ _ hS => ?_)
  obtain ⟨c14, f15, h16, hf17, hP8, hD8⟩ := hB
  rw [ht] at hP8
  clear ht
  subst h16
  rw [aw_asc] at hP8 hD8
  clear hP hD
  have hP := hP8
  have hD := hD8
  clear hP8 hD8
  have hP : va_P D aw_C (L0 ++ ([(q0, .inr (0, [.ref q1, .ref q2])), (q1, .inl (g 3, 4, .inr (.inr (.inr (.inr ((va_up (va_up (fun _ => none) 0 (some (c4 0))) 1 (some (c9 0))))))))), (q2, .inl (g 0, 64, .inl ((fun _ => 0))))] ++ ((([] ++ aw_cx g c4 f5) ++ aw_cx g c9 f10) ++ aw_cx g c14 f15))) H := hP
  have hD : va_D (aw_Z N0) (L0 ++ ([(q0, .inr (0, [.ref q1, .ref q2])), (q1, .inl (g 3, 4, .inr (.inr (.inr (.inr ((va_up (va_up (fun _ => none) 0 (some (c4 0))) 1 (some (c9 0))))))))), (q2, .inl (g 0, 64, .inl ((fun _ => 0))))] ++ ((([] ++ aw_cx g c4 f5) ++ aw_cx g c9 f10) ++ aw_cx g c14 f15))) := hD
  refine aw_kS hx hb hK hP hD hS 1 3 (3 + List.length (([] ++ aw_cx g c4 f5) ++ aw_cx g c9 f10)) 1 rfl rfl (aw_bk _ _ _ (([] ++ aw_cx g c4 f5) ++ aw_cx g c9 f10) _ _) rfl (k := 2) (by decide) (by decide) d_Ru_init_39 (fun H locs hP hD hS => ?_)
  have hP : va_P D aw_C (L0 ++ ([(q0, .inr (0, [.ref q1, .ref q2])), (q1, .inl (g 3, 4, .inr (.inr (.inr (.inr ((va_up (va_up (va_up (fun _ => none) 0 (some (c4 0))) 1 (some (c9 0))) 2 (some (c14 0))))))))), (q2, .inl (g 0, 64, .inl ((fun _ => 0))))] ++ ((([] ++ aw_cx g c4 f5) ++ aw_cx g c9 f10) ++ aw_cx g c14 f15))) H := hP
  have hD : va_D (aw_Z N0) (L0 ++ ([(q0, .inr (0, [.ref q1, .ref q2])), (q1, .inl (g 3, 4, .inr (.inr (.inr (.inr ((va_up (va_up (va_up (fun _ => none) 0 (some (c4 0))) 1 (some (c9 0))) 2 (some (c14 0))))))))), (q2, .inl (g 0, 64, .inl ((fun _ => 0))))] ++ ((([] ++ aw_cx g c4 f5) ++ aw_cx g c9 f10) ++ aw_cx g c14 f15))) := hD
  refine lv_iinc (k := 0) (v := nI 3) hx hb d_Ru_init_40 hl rfl (by decide +kernel) (by decide) rfl (fun ls hl => ?_)
  have hl : lv_has ls 2 [(1, .int (nI 3)), (0, .ref q0)] := hl
  refine lv_goto (tgt := 22) hx hb d_Ru_init_43 (by decide) ?_
  refine lv_iload_n hx hb d_Ru_init_22 rfl (lv_at hl 0 rfl) ?_
  refine lv_iconst (v := nI 4) hx hb d_Ru_init_23 (by decide +kernel) ?_
  refine lv_icmp_ge (tgt := 46) hx hb d_Ru_init_24 (by decide) (fun h => absurd h (by decide +kernel)) (fun _ => ?_)
  refine lv_aload_n hx hb d_Ru_init_27 rfl (lv_at hl 1 rfl) ?_
  refine va_get (C := R_Ru) (T := T_Ru) (N := 2) (v := .ref q1) hx hb hG in_Ru hown hK hP (L0.length + 0) ((aw_ap L0 _ 0).trans rfl) rfl 0 (by decide) (hG _ gw_2_28) (fun _ h => h) rfl d_Ru_init_28 ?_
  refine lv_iload_n hx hb d_Ru_init_31 rfl (lv_at hl 0 rfl) ?_
  refine aw_kN (C := R_Cx) (TT := T_Cx) (N := 10) (ci := 1) (fs := [.null, .null, .int 0, .int 0, .null, .long 0, .long 0, .long 0, .int 0, .int 0]) hx hb hG in_Cx t_Cx t_Cx_ok hown (hG _ gw_0_25) (hG _ gw_0_26) (hG _ gw_0_2) hK hP hD hS hA rfl (by decide +kernel) (Nat.le_of_ble_eq_true rfl) (Nat.le_of_ble_eq_true rfl) d_Ru_init_32 (fun q18 H hP hD hS => ?_)
  have hP : va_P D aw_C (L0 ++ (([(q0, .inr (0, [.ref q1, .ref q2])), (q1, .inl (g 3, 4, .inr (.inr (.inr (.inr ((va_up (va_up (va_up (fun _ => none) 0 (some (c4 0))) 1 (some (c9 0))) 2 (some (c14 0))))))))), (q2, .inl (g 0, 64, .inl ((fun _ => 0))))] ++ ((([] ++ aw_cx g c4 f5) ++ aw_cx g c9 f10) ++ aw_cx g c14 f15)) ++ [(q18, .inr (1, [.null, .null, .int 0, .int 0, .null, .long 0, .long 0, .long 0, .int 0, .int 0]))])) H := hP
  have hD : va_D (aw_Z N0) (L0 ++ (([(q0, .inr (0, [.ref q1, .ref q2])), (q1, .inl (g 3, 4, .inr (.inr (.inr (.inr ((va_up (va_up (va_up (fun _ => none) 0 (some (c4 0))) 1 (some (c9 0))) 2 (some (c14 0))))))))), (q2, .inl (g 0, 64, .inl ((fun _ => 0))))] ++ ((([] ++ aw_cx g c4 f5) ++ aw_cx g c9 f10) ++ aw_cx g c14 f15)) ++ [(q18, .inr (1, [.null, .null, .int 0, .int 0, .null, .long 0, .long 0, .long 0, .int 0, .int 0]))])) := hD
  refine lv_dup hx hb d_Ru_init_35 rfl ?_
  have hP : va_P D aw_C ((L0 ++ ([(q0, .inr (0, [.ref q1, .ref q2])), (q1, .inl (g 3, 4, .inr (.inr (.inr (.inr ((va_up (va_up (va_up (fun _ => none) 0 (some (c4 0))) 1 (some (c9 0))) 2 (some (c14 0))))))))), (q2, .inl (g 0, 64, .inl ((fun _ => 0))))] ++ ((([] ++ aw_cx g c4 f5) ++ aw_cx g c9 f10) ++ aw_cx g c14 f15))) ++ [(q18, .inr (1, [.null, .null, .int 0, .int 0, .null, .long 0, .long 0, .long 0, .int 0, .int 0]))]) H := by rw [List.append_assoc]; exact hP
  have hD : va_D (aw_Z N0) ((L0 ++ ([(q0, .inr (0, [.ref q1, .ref q2])), (q1, .inl (g 3, 4, .inr (.inr (.inr (.inr ((va_up (va_up (va_up (fun _ => none) 0 (some (c4 0))) 1 (some (c9 0))) 2 (some (c14 0))))))))), (q2, .inl (g 0, 64, .inl ((fun _ => 0))))] ++ ((([] ++ aw_cx g c4 f5) ++ aw_cx g c9 f10) ++ aw_cx g c14 f15))) ++ [(q18, .inr (1, [.null, .null, .int 0, .int 0, .null, .long 0, .long 0, .long 0, .int 0, .int 0]))]) := by rw [List.append_assoc]; exact hD
  refine va_callv (va_runIN (As := []) (rest := [.ref q18, .int (nI 3), .ref q1]) ⟨hx, hb, hml, hown, hG⟩ (k_Cx_init l D g N0 (L0 ++ ([(q0, .inr (0, [.ref q1, .ref q2])), (q1, .inl (g 3, 4, .inr (.inr (.inr (.inr ((va_up (va_up (va_up (fun _ => none) 0 (some (c4 0))) 1 (some (c9 0))) 2 (some (c14 0))))))))), (q2, .inl (g 0, 64, .inl ((fun _ => 0))))] ++ ((([] ++ aw_cx g c4 f5) ++ aw_cx g c9 f10) ++ aw_cx g c14 f15))) q18) (aw_wIN 0 hG hN gw_0_28 nw_0 gw_0_2 gw_0_27 rfl rfl rfl hd_Cx_init ⟨Nat.le_of_ble_eq_true rfl, Nat.le_of_ble_eq_true rfl⟩) (aw_qK hP hD hE hC hN0 hS) rfl rfl hl.1 rfl (lv_room (Nat.le_of_ble_eq_true rfl)) d_Ru_init_36 ⟨Nat.le_of_ble_eq_true rfl, Nat.le_of_ble_eq_true rfl⟩) hS (fun _ _ h => h) (fun _ h => h) (fun u t H locs ht _ _ hB _ _ hS => ?_)
  obtain ⟨c19, f20, h21, hf22, hP8, hD8⟩ := hB
  rw [ht] at hP8
  clear ht
  subst h21
  rw [aw_asc] at hP8 hD8
  clear hP hD
  have hP := hP8
  have hD := hD8
  clear hP8 hD8
  have hP : va_P D aw_C (L0 ++ ([(q0, .inr (0, [.ref q1, .ref q2])), (q1, .inl (g 3, 4, .inr (.inr (.inr (.inr ((va_up (va_up (va_up (fun _ => none) 0 (some (c4 0))) 1 (some (c9 0))) 2 (some (c14 0))))))))), (q2, .inl (g 0, 64, .inl ((fun _ => 0))))] ++ (((([] ++ aw_cx g c4 f5) ++ aw_cx g c9 f10) ++ aw_cx g c14 f15) ++ aw_cx g c19 f20))) H := hP
  have hD : va_D (aw_Z N0) (L0 ++ ([(q0, .inr (0, [.ref q1, .ref q2])), (q1, .inl (g 3, 4, .inr (.inr (.inr (.inr ((va_up (va_up (va_up (fun _ => none) 0 (some (c4 0))) 1 (some (c9 0))) 2 (some (c14 0))))))))), (q2, .inl (g 0, 64, .inl ((fun _ => 0))))] ++ (((([] ++ aw_cx g c4 f5) ++ aw_cx g c9 f10) ++ aw_cx g c14 f15) ++ aw_cx g c19 f20))) := hD
  refine aw_kS hx hb hK hP hD hS 1 3 (3 + List.length ((([] ++ aw_cx g c4 f5) ++ aw_cx g c9 f10) ++ aw_cx g c14 f15)) 1 rfl rfl (aw_bk _ _ _ ((([] ++ aw_cx g c4 f5) ++ aw_cx g c9 f10) ++ aw_cx g c14 f15) _ _) rfl (k := 3) (by decide) (by decide) d_Ru_init_39 (fun H locs hP hD hS => ?_)
  have hP : va_P D aw_C (L0 ++ ([(q0, .inr (0, [.ref q1, .ref q2])), (q1, .inl (g 3, 4, .inr (.inr (.inr (.inr ((va_up (va_up (va_up (va_up (fun _ => none) 0 (some (c4 0))) 1 (some (c9 0))) 2 (some (c14 0))) 3 (some (c19 0))))))))), (q2, .inl (g 0, 64, .inl ((fun _ => 0))))] ++ (((([] ++ aw_cx g c4 f5) ++ aw_cx g c9 f10) ++ aw_cx g c14 f15) ++ aw_cx g c19 f20))) H := hP
  have hD : va_D (aw_Z N0) (L0 ++ ([(q0, .inr (0, [.ref q1, .ref q2])), (q1, .inl (g 3, 4, .inr (.inr (.inr (.inr ((va_up (va_up (va_up (va_up (fun _ => none) 0 (some (c4 0))) 1 (some (c9 0))) 2 (some (c14 0))) 3 (some (c19 0))))))))), (q2, .inl (g 0, 64, .inl ((fun _ => 0))))] ++ (((([] ++ aw_cx g c4 f5) ++ aw_cx g c9 f10) ++ aw_cx g c14 f15) ++ aw_cx g c19 f20))) := hD
  refine lv_iinc (k := 0) (v := nI 4) hx hb d_Ru_init_40 hl rfl (by decide +kernel) (by decide) rfl (fun ls hl => ?_)
  have hl : lv_has ls 2 [(1, .int (nI 4)), (0, .ref q0)] := hl
  refine lv_goto (tgt := 22) hx hb d_Ru_init_43 (by decide) ?_
  refine lv_iload_n hx hb d_Ru_init_22 rfl (lv_at hl 0 rfl) ?_
  refine lv_iconst (v := nI 4) hx hb d_Ru_init_23 (by decide +kernel) ?_
  refine lv_icmp_ge (tgt := 46) hx hb d_Ru_init_24 (by decide) (fun _ => ?_) (fun h => absurd (by decide +kernel) h)
  exact W.vret hx hb hr (fun t ht hW => ⟨⟨(), rfl, trivial, ⟨q1, q2, c4, c9, c14, c19, f5, f10, f15, f20, hf7, hf12, hf17, hf22, by rw [ht]; exact aw_rwP hP, aw_rwD hD⟩⟩, hS.F ht⟩) hS.2.2 d_Ru_init_46
