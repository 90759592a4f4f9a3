set_option maxHeartbeats 40000000 in
set_option maxRecDepth 100000 in
theorem whole_start {p : Program} {e : Env} {s : State} {m : MethodId} {below : List Frame} {meth : Method} {c : Code} (l : Launch) (hst : l.stackTraces = false) {b L : Nat} {xs : Nat → Int32} (hL : L ≤ 3072) (C0 : lw_At p s m meth c b L xs) : W p l e room_1 s m #[Value.ref b] below meth c s.heap [] 0 0 (lw_Z below #[Value.ref b] s) (entryFrame m ([Value.ref b] : List Value).toArray 8) := by
  have C1 := C0
  obtain ⟨hx, hb, hr, hml, hown, hts, hX, hbl, hlocks, hgv⟩ := C0
  have hown : s.vm.findClass "RuleCiphersLaw" = some m.cls := hown
  have hG : ∀ w ∈ aw_G, w.before #[Value.ref b] s = true := fun w h => hts w (aw_GL w h)
  obtain ⟨cRu, iRu, kRu⟩ := u_known (C := R_Ru) (T := T_Ru) (N := 2) hG in_Ru (hG _ gw_0_18)
  obtain ⟨cCx, iCx, kCx⟩ := u_known (C := R_Cx) (T := T_Cx) (N := 10) hG in_Cx (hG _ gw_0_26)
  obtain ⟨cTk, iTk, kTk⟩ := u_known (C := R_Tk) (T := T_Tk) (N := 4) hG in_Tk (hG _ gw_1_37)
  obtain ⟨cRc, iRc, kRc⟩ := u_known (C := R_Rc) (T := T_Rc) (N := 2) hG in_Rc (hG _ gw_0_32)
  obtain ⟨cXt, iXt, kXt⟩ := u_known (C := R_Xt) (T := T_Xt) (N := 1) hG in_Xt (hG _ gw_0_59)
  obtain ⟨cSp, iSp, kSp⟩ := u_known (C := R_Sp) (T := T_Sp) (N := 2) hG in_Sp (hG _ gw_1_7)
  obtain ⟨cSi, iSi, kSi⟩ := u_known (C := R_Si) (T := T_Si) (N := 1) hG in_Si (hG _ gw_1_18)
  obtain ⟨cId, iId, kId⟩ := u_known (C := R_Id) (T := T_Id) (N := 2) hG in_Id (hG _ gw_1_26)
  obtain ⟨cMo, iMo, kMo⟩ := u_known (C := R_Mo) (T := T_Mo) (N := 19) hG in_Mo (hG _ gw_9_20)
  obtain ⟨gi, ki, pi, hgi1, hgi2, hgi3⟩ := Cond.arrayClass_spec (hG _ gw_0_57)
  obtain ⟨gl, kl, pl, hgl1, hgl2, hgl3⟩ := Cond.arrayClass_spec (hG _ gw_10_23)
  have hAO1 : va_AO "RuleCiphers$Cipher" s := va_AO.of (hts _ (List.mem_append_right _ (List.mem_of_getElem? (i := 33) rfl)))
  have hAO2 : va_AO "RuleCiphers$Context" s := va_AO.of (hts _ (List.mem_append_right _ (List.mem_of_getElem? (i := 26) rfl)))
  obtain ⟨p2, g2, k2, hp2, -, hk2, hd2, hg2⟩ := Cond.arrayOver_spec hAO1
  obtain ⟨p3, g3, k3, hp3, -, hk3, hd3, hg3⟩ := Cond.arrayOver_spec hAO2
  obtain ⟨D, hDe⟩ : ∃ D : va_G, D = (fun k => [cRu, cCx, cTk, cRc, cXt, cSp, cSi, cId, cMo].getD k cRu, fun k => [iRu, iCx, iTk, iRc, iXt, iSp, iSi, iId, iMo].getD k iRu) := ⟨_, rfl⟩
  obtain ⟨g, hge⟩ : ∃ g : Nat → ClassId, g = (fun k => [gi, gl, g2, g3].getD k gi) := ⟨_, rfl⟩
  have hK : va_K D aw_C (aw_T g) s := by
    subst hDe hge
    refine ⟨fun k q hk => ?_, fun k q hk => ?_⟩
    · have hlt : k < 9 := (List.getElem?_eq_some_iff.mp hk).1
      rcases (by omega : k = 0 ∨ k = 1 ∨ k = 2 ∨ k = 3 ∨ k = 4 ∨ k = 5 ∨ k = 6 ∨ k = 7 ∨ k = 8) with rfl | rfl | rfl | rfl | rfl | rfl | rfl | rfl | rfl
      · cases hk; exact kRu
      · cases hk; exact kCx
      · cases hk; exact kTk
      · cases hk; exact kRc
      · cases hk; exact kXt
      · cases hk; exact kSp
      · cases hk; exact kSi
      · cases hk; exact kId
      · cases hk; exact kMo
    · have hlt : k < 4 := (List.getElem?_eq_some_iff.mp hk).1
      rcases (by omega : k = 0 ∨ k = 1 ∨ k = 2 ∨ k = 3) with rfl | rfl | rfl | rfl
      · cases hk; exact ⟨fun n z => ⟨fun k h => (by cases h), ki, hgi2, pi, hgi3⟩, hgi1⟩
      · cases hk; exact ⟨fun n z => ⟨fun k h => (by cases h), kl, hgl2, pl, hgl3⟩, hgl1⟩
      · cases hk; exact ⟨fun n z => ⟨fun k h => (by cases h), k2, hk2, p2, hd2⟩, k2, p2, hk2, hd2, hp2, hg2⟩
      · cases hk; exact ⟨fun n z => ⟨fun k h => (by cases h), k3, hk3, p3, hd3⟩, k3, p3, hk3, hd3, hp3, hg3⟩
  clear hDe hge
  have hN : aw_N s := fun w hw => va_Nw.of (aw_NL w hw).2 (hts w (aw_NL w hw).1)
  have hs := flat_of_before _ hgv
  have hNC : aw_NC s := by
    intro q hq
    simp only [aw_ncs, List.mem_cons, List.not_mem_nil, or_false] at hq
    rcases hq with rfl | rfl | rfl | rfl | rfl | rfl
    · exact va_Nc.of (hs _ (by decide +kernel))
    · exact va_Nc.of (hs _ (by decide +kernel))
    · exact va_Nc.of (hs _ (by decide +kernel))
    · exact va_Nc.of (hs _ (by decide +kernel))
    · exact va_Nc.of (hs _ (by decide +kernel))
    · exact va_Nc.of (hs _ (by decide +kernel))
  have hE : aw_E D g s := ⟨hK, hN, hNC⟩
  have hC : aw_EC s := ⟨hAO1, hAO2, (hN _ nw_41), (hN _ nw_44), (hN _ nw_43), (hN _ nw_42), (hN _ nw_40)⟩
  obtain ⟨N0, hN0e⟩ : ∃ N0 : Nat, N0 = s.heap.size := ⟨_, rfl⟩
  have hN0 : N0 ≤ s.heap.size := Nat.le_of_eq hN0e
  have hnA : ∀ a : Nat, a < s.heap.size → ¬ aw_Z N0 a := fun a h h2 => by have h3 : N0 ≤ a := h2; omega
  have hF : aw_F N0 s s.heap := by
    refine ⟨vx_Zqof (hts _ (List.mem_append_right _ (List.mem_of_getElem? (i := 200) rfl))) (hG _ gw_0_11) (hs _ (by decide +kernel)) hnA, vx_Zqof (hts _ (List.mem_append_right _ (List.mem_of_getElem? (i := 202) rfl))) (hG _ gw_0_11) (hs _ (by decide +kernel)) hnA, fun q hq => ?_⟩
    simp only [aw_strs, List.mem_cons, List.not_mem_nil, or_false] at hq
    rcases hq with rfl | rfl | rfl | rfl | rfl | rfl | rfl | rfl | rfl | rfl | rfl
    · have h9 := (hts _ (List.mem_append_right _ (List.mem_of_getElem? (i := 214) rfl)))
      obtain ⟨_, _, _, a, -, -, -, -, -, he⟩ := Cond.stringRef_spec kRu.2.1 h9
      exact ⟨a, vk_R.of h9 he⟩
    · have h9 := (hts _ (List.mem_append_right _ (List.mem_of_getElem? (i := 250) rfl)))
      obtain ⟨_, _, _, a, -, -, -, -, -, he⟩ := Cond.stringRef_spec kRu.2.1 h9
      exact ⟨a, vk_R.of h9 he⟩
    · have h9 := (hts _ (List.mem_append_right _ (List.mem_of_getElem? (i := 266) rfl)))
      obtain ⟨_, _, _, a, -, -, -, -, -, he⟩ := Cond.stringRef_spec kRu.2.1 h9
      exact ⟨a, vk_R.of h9 he⟩
    · have h9 := (hts _ (List.mem_append_right _ (List.mem_of_getElem? (i := 284) rfl)))
      obtain ⟨_, _, _, a, -, -, -, -, -, he⟩ := Cond.stringRef_spec kRu.2.1 h9
      exact ⟨a, vk_R.of h9 he⟩
    · have h9 := (hts _ (List.mem_append_right _ (List.mem_of_getElem? (i := 360) rfl)))
      obtain ⟨_, _, _, a, -, -, -, -, -, he⟩ := Cond.stringRef_spec kRu.2.1 h9
      exact ⟨a, vk_R.of h9 he⟩
    · have h9 := (hts _ (List.mem_append_right _ (List.mem_of_getElem? (i := 364) rfl)))
      obtain ⟨_, _, _, a, -, -, -, -, -, he⟩ := Cond.stringRef_spec kRu.2.1 h9
      exact ⟨a, vk_R.of h9 he⟩
    · have h9 := (hts _ (List.mem_append_right _ (List.mem_of_getElem? (i := 504) rfl)))
      obtain ⟨_, _, _, a, -, -, -, -, -, he⟩ := Cond.stringRef_spec kRu.2.1 h9
      exact ⟨a, vk_R.of h9 he⟩
    · have h9 := (hts _ (List.mem_append_right _ (List.mem_of_getElem? (i := 522) rfl)))
      obtain ⟨_, _, _, a, -, -, -, -, -, he⟩ := Cond.stringRef_spec kRu.2.1 h9
      exact ⟨a, vk_R.of h9 he⟩
    · have h9 := (hts _ (List.mem_append_right _ (List.mem_of_getElem? (i := 523) rfl)))
      obtain ⟨_, _, _, a, -, -, -, -, -, he⟩ := Cond.stringRef_spec kRu.2.1 h9
      exact ⟨a, vk_R.of h9 he⟩
    · have h9 := (hts _ (List.mem_append_right _ (List.mem_of_getElem? (i := 528) rfl)))
      obtain ⟨_, _, _, a, -, -, -, -, -, he⟩ := Cond.stringRef_spec kRu.2.1 h9
      exact ⟨a, vk_R.of h9 he⟩
    · have h9 := (hts _ (List.mem_append_right _ (List.mem_of_getElem? (i := 577) rfl)))
      obtain ⟨_, _, _, a, -, -, -, -, -, he⟩ := Cond.stringRef_spec kRu.2.1 h9
      exact ⟨a, vk_R.of h9 he⟩
  have hU : aw_U D g N0 s := ⟨hE, hF, hN0⟩
  have hS : va_S (aw_Z N0) s.heap s.heap [] := va_S.rf
  have hA : ∀ q, s.heap.size ≤ q → aw_Z N0 q := fun q h => Nat.le_trans hN0 h
  have hP : va_P D aw_C (([] : va_W) ++ []) s.heap := fun k q hk => by simp at hk
  have hD : va_D (aw_Z N0) (([] : va_W) ++ []) := ⟨fun i j x y h => by simp at h, fun k q h => by simp at h⟩
  have hl := lv_entry ([.ref b] : List Value) (n := 8) (Nat.le_of_ble_eq_true rfl)
  rw [lg_entry_eq]
  generalize (lg_sl ([.ref b] : List Value) ++ List.replicate (8 - (lg_sl ([.ref b] : List Value)).length) Slot.unset).toArray = ls at hl ⊢
  have hl : lv_has ls 8 [(0, .ref b)] := hl
  refine aw_kN (L0 := []) (T := []) (C := R_Ru) (TT := T_Ru) (N := 2) (ci := 0) (fs := [.null, .null]) hx hb hG in_Ru t_Ru t_Ru_ok hown (hG _ gw_0_17) (hG _ gw_0_18) (hG _ gw_0_1) hK hP hD hS hA rfl (by decide +kernel) (Nat.le_of_ble_eq_true rfl) (Nat.le_of_ble_eq_true rfl) d_La_law_0 (fun q0 H hP hD hS => ?_)
  have hP : va_P D aw_C ([] ++ [(q0, .inr (0, [.null, .null]))]) H := hP
  have hD : va_D (aw_Z N0) ([] ++ [(q0, .inr (0, [.null, .null]))]) := hD
  refine lv_dup hx hb d_La_law_3 rfl ?_
  refine va_callv (va_runI (As := []) (rest := [.ref q0]) ⟨hx, hb, hml, hown, hG⟩ (k_Ru_init l D g N0 [] q0) (aw_wI 0 hG gw_0_21 gw_0_19 gw_0_1 gw_0_20 rfl rfl rfl hd_Ru_init ⟨Nat.le_of_ble_eq_true rfl, Nat.le_of_ble_eq_true rfl⟩) (aw_qK hP hD hE hC hN0 hS) rfl rfl hl.1 rfl (lv_room (Nat.le_of_ble_eq_true rfl)) d_La_law_4 ⟨(Nat.le_of_ble_eq_true rfl), (Nat.le_of_ble_eq_true rfl)⟩) hS (fun _ _ h => h) (fun _ h => h) (fun u8 t8 H locs ht _ _ hB _ _ hS => ?_)
  obtain ⟨q1, q2, c0, c1, c2, c3, f0, f1, f2, f3, hf0, hf1, hf2, hf3, hP, hD⟩ := hB
  rw [ht] at hP
  clear ht
  refine lv_astore_n hx hb d_La_law_7 rfl hl (by decide) rfl (fun ls hl => ?_)
  have hl : lv_has ls 8 [(1, .ref q0), (0, .ref b)] := hl
  have hP : va_P D aw_C (([] ++ aw_rw g q0 q1 q2 c0 c1 c2 c3 f0 f1 f2 f3) ++ []) H := by rw [List.append_nil]; exact hP
  have hD : va_D (aw_Z N0) (([] ++ aw_rw g q0 q1 q2 c0 c1 c2 c3 f0 f1 f2 f3) ++ []) := by rw [List.append_nil]; exact hD
  refine aw_kN (L0 := ([] ++ aw_rw g q0 q1 q2 c0 c1 c2 c3 f0 f1 f2 f3)) (T := []) (C := R_Mo) (TT := T_Mo) (N := 19) (ci := 8) (fs := [.int 0, .null, .null, .null, .null, .null, .null, .null, .null, .null, .null, .null, .null, .null, .null, .int 0, .int 0, .null, .null]) hx hb hG in_Mo t_Mo t_Mo_ok hown (hG _ gw_9_19) (hG _ gw_9_20) (hG _ gw_0_10) hK hP hD hS hA rfl (by decide +kernel) (Nat.le_of_ble_eq_true rfl) (Nat.le_of_ble_eq_true rfl) d_La_law_8 (fun qm H hP hD hS => ?_)
  have hP : va_P D aw_C (([] ++ aw_rw g q0 q1 q2 c0 c1 c2 c3 f0 f1 f2 f3) ++ [(qm, .inr (8, [.int 0, .null, .null, .null, .null, .null, .null, .null, .null, .null, .null, .null, .null, .null, .null, .int 0, .int 0, .null, .null]))]) H := hP
  have hD : va_D (aw_Z N0) (([] ++ aw_rw g q0 q1 q2 c0 c1 c2 c3 f0 f1 f2 f3) ++ [(qm, .inr (8, [.int 0, .null, .null, .null, .null, .null, .null, .null, .null, .null, .null, .null, .null, .null, .null, .int 0, .int 0, .null, .null]))]) := hD
  refine lv_dup hx hb d_La_law_11 rfl ?_
  refine va_callv (va_runI (As := []) (rest := [.ref qm]) ⟨hx, hb, hml, hown, hG⟩ (k_Mo_init l D g N0 ([] ++ aw_rw g q0 q1 q2 c0 c1 c2 c3 f0 f1 f2 f3) qm) (aw_wI 0 hG gw_9_23 gw_9_21 gw_0_10 gw_9_22 rfl rfl rfl hd_Mo_init ⟨Nat.le_of_ble_eq_true rfl, Nat.le_of_ble_eq_true rfl⟩) (aw_qK hP hD hE hC hN0 hS) rfl rfl hl.1 rfl (lv_room (Nat.le_of_ble_eq_true rfl)) d_La_law_12 ⟨(Nat.le_of_ble_eq_true rfl), (Nat.le_of_ble_eq_true rfl)⟩) hS (fun _ _ h => h) (fun _ h => h) (fun u8 t8 H locs ht _ _ hB _ _ hS => ?_)
  obtain ⟨q, hq0, hP8, hD8⟩ := hB
  rw [ht] at hP8
  clear ht hP hD
  subst hq0
  refine lv_astore_n hx hb d_La_law_15 rfl hl (by decide) rfl (fun ls hl => ?_)
  have hl : lv_has ls 8 [(2, .ref (q 0)), (1, .ref q0), (0, .ref b)] := hl
  have hP : va_P D aw_C ((([] ++ aw_rw g q0 q1 q2 c0 c1 c2 c3 f0 f1 f2 f3) ++ aw_mo g q) ++ []) H := by rw [List.append_nil]; exact hP8
  have hD : va_D (aw_Z N0) ((([] ++ aw_rw g q0 q1 q2 c0 c1 c2 c3 f0 f1 f2 f3) ++ aw_mo g q) ++ []) := by rw [List.append_nil]; exact hD8
  refine lv_iconst (v := nI 1) hx hb d_La_law_16 (by decide +kernel) ?_
  refine aw_kL (L0 := ([] ++ aw_rw g q0 q1 q2 c0 c1 c2 c3 f0 f1 f2 f3) ++ aw_mo g q) (T := []) hx hb (hG _ gw_10_23) hE hP hD hS hA (N := 1) (by decide) (Nat.le_of_ble_eq_true rfl) (Nat.le_of_ble_eq_true rfl) d_La_law_17 (fun qo H hP hD hS => ?_)
  refine lv_astore_n hx hb d_La_law_19 rfl hl (by decide) rfl (fun ls hl => ?_)
  have hl : lv_has ls 8 [(3, .ref qo), (2, .ref (q 0)), (1, .ref q0), (0, .ref b)] := hl
  refine lv_iconst (v := nI 0) hx hb d_La_law_20 (by decide +kernel) ?_
  refine lv_istore hx hb d_La_law_21 hl (by decide) rfl (fun ls hl => ?_)
  have hl : lv_has ls 8 [(4, .int (nI 0)), (3, .ref qo), (2, .ref (q 0)), (1, .ref q0), (0, .ref b)] := hl
  have hl := lv_sub hl (l' := [(0, .ref b), (1, .ref q0), (2, .ref (q 0)), (3, .ref qo), (4, .int (nI 0))]) [4, 3, 2, 1, 0] rfl
  have hl : lv_has ls 8 [(0, .ref b), (1, .ref (aw_r (aw_AD q0 q1 q2 c0 c1 c2 c3 q qo) 0)), (2, .ref (aw_m (aw_AD q0 q1 q2 c0 c1 c2 c3 q qo) 0)), (3, .ref (aw_o (aw_AD q0 q1 q2 c0 c1 c2 c3 q qo))), (4, .int (nI (6 * 0)))] := hl
  exact law_loop l hst hL C1 hN0e hU (L / 6) 0 (fun _ => (0, 0)) (fun _ => 2) (fun _ _ => 0) (fun _ _ => 0) (fun _ _ _ => 0) (fun _ => 0) (fun _ => (0, 0)) (fun _ _ => 0) (fun _ _ => 0) 0 0 0 0 _ _ _ ls (Nat.zero_add _) hP hD (az_init hf0 hf1 hf2 hf3) az_R0 hS hl
