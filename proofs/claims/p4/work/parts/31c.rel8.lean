/-! The relation of class and reference: stages and modes, ciphers, words. -/
def az_K (kc : Nat) (A : Nat → Nat → Int32) (a b : Int64) : Prop := (∀ i, i < az_wn kc → A (az_wc kc) i = az_sch kc a b i) ∧ True
def az_R (zG : Nat → Nat × Nat) (zO : Nat → Nat) (zX : Nat → Nat → Int64) (zY : Nat → Nat → Int32) (zA : Nat → Nat → Nat → Int32) (zB : Nat → Int32) (zM : Nat → Nat × Nat) (zI : Nat → Nat → Int32) (zL : Nat → Nat → Int64) : Prop := (∀ j, j < 4 → zG j = zM j) ∧ (∀ j, j < 4 → 1 ≤ (zG j).1 → ∃ kc, kc < 5 ∧ zI 3 j = nI kc ∧ zO j = az_cn kc) ∧ (∀ j kc, j < 4 → 2 ≤ (zG j).1 → kc < 5 → zI 3 j = nI kc → az_K kc (zA j) (zL 4 j) (zL 5 j))
theorem az_Rg {zG : Nat → Nat × Nat} {zO : Nat → Nat} {zX : Nat → Nat → Int64} {zY : Nat → Nat → Int32} {zA : Nat → Nat → Nat → Int32} {zB : Nat → Int32} {zM : Nat → Nat × Nat} {zI : Nat → Nat → Int32} {zL : Nat → Nat → Int64} {G' M' : Nat → Nat × Nat} {X' : Nat → Nat → Int64} {Y' : Nat → Nat → Int32} {B' : Nat → Int32} {I' : Nat → Nat → Int32} {L' : Nat → Nat → Int64} (h : az_R zG zO zX zY zA zB zM zI zL) (hgm : ∀ q, q < 4 → G' q = M' q) (h1 : ∀ q, q < 4 → 1 ≤ (G' q).1 → 1 ≤ (zG q).1) (h2 : ∀ q, q < 4 → 2 ≤ (G' q).1 → 2 ≤ (zG q).1) (e3 : I' 3 = zI 3) (e4 : L' 4 = zL 4) (e5 : L' 5 = zL 5) : az_R G' zO X' Y' zA B' M' I' L' := by
  refine ⟨hgm, fun q hq hs => ?_, fun q kc hq hs hkc hci => ?_⟩
  · rw [e3]
    exact h.2.1 q hq (h1 q hq hs)
  · rw [e3] at hci
    rw [e4, e5]
    exact h.2.2 q kc hq (h2 q hq hs) hkc hci
theorem az_Rk {zG : Nat → Nat × Nat} {zO : Nat → Nat} {zX : Nat → Nat → Int64} {zY : Nat → Nat → Int32} {zA : Nat → Nat → Nat → Int32} {zB : Nat → Int32} {zM : Nat → Nat × Nat} {zI : Nat → Nat → Int32} {zL : Nat → Nat → Int64} {X' : Nat → Nat → Int64} {Y' : Nat → Nat → Int32} {B' : Nat → Int32} {I' : Nat → Nat → Int32} {L' : Nat → Nat → Int64} (h : az_R zG zO zX zY zA zB zM zI zL) (e3 : I' 3 = zI 3) (e4 : L' 4 = zL 4) (e5 : L' 5 = zL 5) : az_R zG zO X' Y' zA B' zM I' L' := az_Rg h h.1 (fun _ _ z => z) (fun _ _ z => z) e3 e4 e5
theorem r_choose1 {zG : Nat → Nat × Nat} {zO : Nat → Nat} {zX : Nat → Nat → Int64} {zY : Nat → Nat → Int32} {zA : Nat → Nat → Nat → Int32} {zB : Nat → Int32} {zM : Nat → Nat × Nat} {zI : Nat → Nat → Int32} {zL : Nat → Nat → Int64} {j k : Nat} (hR : az_R zG zO zX zY zA zB zM zI zL) (hj : j < 4) (hk : k < 5) (hs : (zG j).1 = 0) : az_R (v_La_choose1V_zG zG zO j k) (v_La_choose1V_zO zG zO j k) zX zY zA zB (v_Mo_choose1V_zM zM zI j k) (v_Mo_choose1V_zI zM zI j k) zL := by
  show az_R (aw_g1 zG j 1) (az_u1 zO j (az_cn k)) zX zY zA zB (aw_g1 zM j 1) (az_v (az_v zI 2 j (nI 1)) 3 j (nI k)) zL
  refine ⟨fun q hq => ?_, fun q hq h1 => ?_, fun q kc hq h2 hkc hci => ?_⟩
  · have e := hR.1 q hq
    by_cases hqj : q = j
    · rw [hqj] at e ⊢
      rw [aw_g1s, aw_g1s, e]
    · rw [aw_g1n _ _ hqj, aw_g1n _ _ hqj, e]
  · by_cases hqj : q = j
    · rw [hqj]
      exact ⟨k, hk, az_v_s, if_pos rfl⟩
    · rw [aw_g1n _ _ hqj] at h1
      obtain ⟨kc, a1, a2, a3⟩ := hR.2.1 q hq h1
      refine ⟨kc, a1, ?_, ?_⟩
      · rw [az_v_k hqj, az_v_i (show 3 ≠ 2 by decide)]
        exact a2
      · rw [show az_u1 zO j (az_cn k) q = zO q from if_neg hqj]
        exact a3
  · by_cases hqj : q = j
    · rw [hqj, aw_g1s] at h2
      have h2 : 2 ≤ 1 := h2
      omega
    · rw [aw_g1n _ _ hqj] at h2
      rw [az_v_k hqj, az_v_i (show 3 ≠ 2 by decide)] at hci
      exact hR.2.2 q kc hq h2 hkc hci
theorem r_K (zA : Nat → Nat → Nat → Int32) (j kc : Nat) (a b : Int64) (hkc : kc < 5) : az_K kc (v_Ci_scheduleV_zA zA j (az_cn kc) a b j) a b := ⟨fun i hi => q_schA zA j kc a b hkc i hi, trivial⟩
theorem r_key1 {zG : Nat → Nat × Nat} {zO : Nat → Nat} {zX : Nat → Nat → Int64} {zY : Nat → Nat → Int32} {zA : Nat → Nat → Nat → Int32} {zB : Nat → Int32} {zM : Nat → Nat × Nat} {zI : Nat → Nat → Int32} {zL : Nat → Nat → Int64} {j : Nat} {a b : Int64} (hR : az_R zG zO zX zY zA zB zM zI zL) (hj : j < 4) (hs : ¬ (zG j).1 = 0) : az_R (v_La_key1V_zG zG zO zA j a b) zO zX zY (v_La_key1V_zA zG zO zA j a b) zB (v_Mo_key1V_zM zM zI zL j a b) (v_Mo_key1V_zI zM zI zL j a b) (v_Mo_key1V_zL zM zI zL j a b) := by
  show az_R (aw_g1 zG j 2) zO zX zY (v_Ci_scheduleV_zA zA j (zO j) a b) zB (aw_g1 zM j 2) (az_v zI 2 j (nI 2)) (az_vl (az_vl zL 4 j a) 5 j b)
  refine ⟨fun q hq => ?_, fun q hq h1 => ?_, fun q kc hq h2 hkc hci => ?_⟩
  · have e := hR.1 q hq
    by_cases hqj : q = j
    · rw [hqj] at e ⊢
      rw [aw_g1s, aw_g1s, e]
    · rw [aw_g1n _ _ hqj, aw_g1n _ _ hqj, e]
  · rw [az_v_i (show 3 ≠ 2 by decide)]
    by_cases hqj : q = j
    · rw [hqj]
      exact hR.2.1 j hj (by omega)
    · rw [aw_g1n _ _ hqj] at h1
      exact hR.2.1 q hq h1
  · rw [az_v_i (show 3 ≠ 2 by decide)] at hci
    by_cases hqj : q = j
    · rw [hqj] at hci ⊢
      obtain ⟨kc9, a1, a2, a3⟩ := hR.2.1 j hj (by omega)
      have e9 : kc9 = kc := (nI_eq (by omega) (by omega)).mp (a2.symm.trans hci)
      rw [e9] at a3
      rw [a3, az_vl_i (show 4 ≠ 5 by decide), az_vl_s, az_vl_s]
      exact r_K zA j kc a b hkc
    · rw [aw_g1n _ _ hqj] at h2
      rw [fr_sched zA j (zO j) a b hqj, az_vl_i (show 4 ≠ 5 by decide), az_vl_k hqj, az_vl_k hqj, az_vl_i (show 5 ≠ 4 by decide)]
      exact hR.2.2 q kc hq h2 hkc hci
theorem r_mode1 {zG : Nat → Nat × Nat} {zO : Nat → Nat} {zX : Nat → Nat → Int64} {zY : Nat → Nat → Int32} {zA : Nat → Nat → Nat → Int32} {zB : Nat → Int32} {zM : Nat → Nat × Nat} {zI : Nat → Nat → Int32} {zL : Nat → Nat → Int64} {j k : Nat} {b : Int64} (hR : az_R zG zO zX zY zA zB zM zI zL) (hj : j < 4) (hk : k ≤ 5) (hs : 2 ≤ (zG j).1) : az_R (v_La_mode1V_zG zG zX zY j k b) zO (v_La_mode1V_zX zG zX zY j k b) (v_La_mode1V_zY zG zX zY j k b) zA zB (v_Mo_mode1V_zM zM zI zL j k b) (v_Mo_mode1V_zI zM zI zL j k b) (v_Mo_mode1V_zL zM zI zL j k b) := by
  have st : ∀ q, q < 4 → ∀ n, n ≤ 2 → n ≤ (aw_g1 (aw_g2 zG j k) j 3 q).1 → n ≤ (zG q).1 := by
    intro q hq n hn h
    by_cases hqj : q = j
    · rw [hqj]
      omega
    · rw [aw_g1n _ _ hqj, aw_g2n _ _ hqj] at h
      exact h
  refine az_Rg (G' := aw_g1 (aw_g2 zG j k) j 3) (M' := aw_g2 (aw_g1 zM j 3) j k) hR (fun q hq => ?_) (fun q hq h => st q hq 1 (by decide) h) (fun q hq h => st q hq 2 (by decide) h) rfl rfl rfl
  have e := hR.1 q hq
  rw [aw_g12]
  by_cases hqj : q = j
  · rw [hqj] at e ⊢
    rw [aw_g2s, aw_g2s, aw_g1s, aw_g1s]
  · rw [aw_g2n _ _ hqj, aw_g2n _ _ hqj, aw_g1n _ _ hqj, aw_g1n _ _ hqj, e]
theorem r_free1 {zG : Nat → Nat × Nat} {zO : Nat → Nat} {zX : Nat → Nat → Int64} {zY : Nat → Nat → Int32} {zA : Nat → Nat → Nat → Int32} {zB : Nat → Int32} {zM : Nat → Nat × Nat} {zI : Nat → Nat → Int32} {zL : Nat → Nat → Int64} {j : Nat} (hR : az_R zG zO zX zY zA zB zM zI zL) (hj : j < 4) : az_R (v_La_free1V_zG zG j) zO zX zY zA zB (v_Mo_free1V_zM zM zI j) (v_Mo_free1V_zI zM zI j) zL := by
  have st : ∀ q, q < 4 → ∀ n, 1 ≤ n → n ≤ (aw_g1 zG j 0 q).1 → n ≤ (zG q).1 := by
    intro q hq n hn h
    by_cases hqj : q = j
    · rw [hqj, aw_g1s] at h
      have h : n ≤ 0 := h
      omega
    · rw [aw_g1n _ _ hqj] at h
      exact h
  refine az_Rg (G' := aw_g1 zG j 0) (M' := aw_g1 zM j 0) hR (fun q hq => ?_) (fun q hq h => st q hq 1 (by decide) h) (fun q hq h => st q hq 2 (by decide) h) rfl rfl rfl
  have e := hR.1 q hq
  by_cases hqj : q = j
  · rw [hqj] at e ⊢
    rw [aw_g1s, aw_g1s, e]
  · rw [aw_g1n _ _ hqj, aw_g1n _ _ hqj, e]
theorem r_block1 {zG : Nat → Nat × Nat} {zO : Nat → Nat} {zX : Nat → Nat → Int64} {zY : Nat → Nat → Int32} {zA : Nat → Nat → Nat → Int32} {zB : Nat → Int32} {zM : Nat → Nat × Nat} {zI : Nat → Nat → Int32} {zL : Nat → Nat → Int64} {j : Nat} {bk : Int32} {b : Int64} (hR : az_R zG zO zX zY zA zB zM zI zL) (hj : j < 4) (hs : 2 ≤ (zG j).1) {kc : Nat} (hkc : kc < 5) (hci : zI 3 j = nI kc) (hco : zO j = az_cn kc) : az_R zG zO zX zY zA zB zM (v_Mo_block1V_zI zI zL j kc bk b) zL := by
  refine az_Rk hR ?_ rfl rfl
  unfold v_Mo_block1V_zI
  split
  · exact (fr_prep zI zL j kc (by decide) (by decide))
  · exact (fr_prep zI zL j kc (by decide) (by decide))
theorem r_word1 {zG : Nat → Nat × Nat} {zO : Nat → Nat} {zX : Nat → Nat → Int64} {zY : Nat → Nat → Int32} {zA : Nat → Nat → Nat → Int32} {zB : Nat → Int32} {zM : Nat → Nat × Nat} {zI : Nat → Nat → Int32} {zL : Nat → Nat → Int64} {j : Nat} {i : Int32} (hR : az_R zG zO zX zY zA zB zM zI zL) (hj : j < 4) (hs : 2 ≤ (zG j).1) {kc : Nat} (hkc : kc < 5) (hci : zI 3 j = nI kc) (hco : zO j = az_cn kc) : az_R zG zO zX zY zA zB zM (v_Mo_word1V_zI zI zL j kc i) zL := by
  refine az_Rk hR ?_ rfl rfl
  unfold v_Mo_word1V_zI
  repeat' split
  all_goals exact (fr_prep zI zL j kc (by decide) (by decide))
theorem r_put1 {zG : Nat → Nat × Nat} {zO : Nat → Nat} {zX : Nat → Nat → Int64} {zY : Nat → Nat → Int32} {zA : Nat → Nat → Nat → Int32} {zB : Nat → Int32} {zM : Nat → Nat × Nat} {zI : Nat → Nat → Int32} {zL : Nat → Nat → Int64} {k : Nat} {b : Int32} (hR : az_R zG zO zX zY zA zB zM zI zL) (hk : k < 64) : az_R zG zO zX zY zA (v_La_put1V_zB zB k b) zM (v_Mo_put1V_zI zI k b) zL := by
  exact az_Rk hR rfl rfl rfl
theorem r_feed10b_Xb {zG : Nat → Nat × Nat} {zO : Nat → Nat} {zX : Nat → Nat → Int64} {zY : Nat → Nat → Int32} {zA : Nat → Nat → Nat → Int32} {zB : Nat → Int32} {zM : Nat → Nat × Nat} {zI : Nat → Nat → Int32} {zL : Nat → Nat → Int64} {j : Nat} (hR : az_R zG zO zX zY zA zB zM zI zL) (hj : j < 4) (hs : (zG j).1 = 3) (hm : (zG j).2 ≤ 1) : az_R zG zO zX (v_La_feed10bV_zY zY j) zA zB zM zI zL := by
  exact az_Rk hR rfl rfl rfl
theorem r_feed10_Xb {zG : Nat → Nat × Nat} {zO : Nat → Nat} {zX : Nat → Nat → Int64} {zY : Nat → Nat → Int32} {zA : Nat → Nat → Nat → Int32} {zB : Nat → Int32} {zM : Nat → Nat × Nat} {zI : Nat → Nat → Int32} {zL : Nat → Nat → Int64} {j : Nat} (hR : az_R zG zO zX zY zA zB zM zI zL) (hj : j < 4) (hs : (zG j).1 = 3) (hm : 2 ≤ (zG j).2) : az_R zG zO zX (v_La_feed10V_zY zY j) zA zB zM zI zL := by
  exact az_Rk hR rfl rfl rfl
theorem r_feed10b_8 {zG : Nat → Nat × Nat} {zO : Nat → Nat} {zX : Nat → Nat → Int64} {zY : Nat → Nat → Int32} {zA : Nat → Nat → Nat → Int32} {zB : Nat → Int32} {zM : Nat → Nat × Nat} {zI : Nat → Nat → Int32} {zL : Nat → Nat → Int64} {j k : Nat} {bk : Int32} (hR : az_R zG zO zX zY zA zB zM zI zL) (hj : j < 4) (hs : (zG j).1 = 3) (hm : (zG j).2 ≤ 1) (hk : k ≤ 64) {kc : Nat} (hkc : kc < 5) (hci : zI 3 j = nI kc) (hco : zO j = az_cn kc) : az_R zG zO zX (v_La_feed10bV_zY zY j) zA zB zM (v_Mo_feed8V_zI zM zI zL j kc bk k 0) (v_Mo_feed8V_zL zM zI zL j kc bk k 0) := by
  refine az_Rk hR ?_ (fr_feed8LL zM zI zL j kc bk k 0 (by decide) _) (fr_feed8LL zM zI zL j kc bk k 0 (by decide) _)
  exact (az_v_i (show 3 ≠ 10 by decide)).trans (fr_feed8LI zM zI zL j kc bk k 0 (by decide) (by decide) (by decide) (by decide) _)
theorem r_feed10_1 {zG : Nat → Nat × Nat} {zO : Nat → Nat} {zX : Nat → Nat → Int64} {zY : Nat → Nat → Int32} {zA : Nat → Nat → Nat → Int32} {zB : Nat → Int32} {zM : Nat → Nat × Nat} {zI : Nat → Nat → Int32} {zL : Nat → Nat → Int64} {j k : Nat} {bk : Int32} (hR : az_R zG zO zX zY zA zB zM zI zL) (hj : j < 4) (hs : (zG j).1 = 3) (hm : 2 ≤ (zG j).2) (hm4 : (zG j).2 ≤ 4) (hk : k ≤ 64) {kc : Nat} (hkc : kc < 5) (hci : zI 3 j = nI kc) (hco : zO j = az_cn kc) : az_R zG zO zX (v_La_feed10V_zY zY j) zA zB zM (v_Mo_feed1V_zI zM zI zL j kc bk k 0) (v_Mo_feed1V_zL zM zI zL j kc bk k 0) := by
  refine az_Rk hR ?_ (fr_feed1LL zM zI zL j kc bk k 0 (by decide) _) (fr_feed1LL zM zI zL j kc bk k 0 (by decide) _)
  exact (az_v_i (show 3 ≠ 10 by decide)).trans (fr_feed1LI zM zI zL j kc bk k 0 (by decide) (by decide) (by decide) (by decide) _)
theorem r_feed18_8 {zG : Nat → Nat × Nat} {zO : Nat → Nat} {zX : Nat → Nat → Int64} {zY : Nat → Nat → Int32} {zA : Nat → Nat → Nat → Int32} {zB : Nat → Int32} {zM : Nat → Nat × Nat} {zI : Nat → Nat → Int32} {zL : Nat → Nat → Int64} {j k q : Nat} {bk : Int32} (hR : az_R zG zO zX zY zA zB zM zI zL) (hj : j < 4) (hs : (zG j).1 = 3) (hm : (zG j).2 ≤ 1) (h0 : 0 < 8 * q) (hk : k + 8 * q ≤ 64) {kc : Nat} (hkc : kc < 5) (hci : zI 3 j = nI kc) (hco : zO j = az_cn kc) : az_R zG zO (v_La_feed18V_zX zG zO zX zY zA zB j bk k q) (v_La_feed18V_zY zG zO zX zY zA zB j bk k q) zA (v_La_feed18V_zB zG zO zX zY zA zB j bk k q) zM (v_Mo_feed8V_zI zM zI zL j kc bk k (8 * q)) (v_Mo_feed8V_zL zM zI zL j kc bk k (8 * q)) := by
  refine az_Rk hR ?_ (fr_feed8LL zM zI zL j kc bk k (8 * q) (by decide) _) (fr_feed8LL zM zI zL j kc bk k (8 * q) (by decide) _)
  exact (az_v_i (show 3 ≠ 10 by decide)).trans (fr_feed8LI zM zI zL j kc bk k (8 * q) (by decide) (by decide) (by decide) (by decide) _)
theorem r_feed11_1 {zG : Nat → Nat × Nat} {zO : Nat → Nat} {zX : Nat → Nat → Int64} {zY : Nat → Nat → Int32} {zA : Nat → Nat → Nat → Int32} {zB : Nat → Int32} {zM : Nat → Nat × Nat} {zI : Nat → Nat → Int32} {zL : Nat → Nat → Int64} {j k mm : Nat} {bk : Int32} (hR : az_R zG zO zX zY zA zB zM zI zL) (hj : j < 4) (hs : (zG j).1 = 3) (hm : 2 ≤ (zG j).2) (hm4 : (zG j).2 ≤ 4) (h0 : 0 < mm) (hk : k + mm ≤ 64) {kc : Nat} (hkc : kc < 5) (hci : zI 3 j = nI kc) (hco : zO j = az_cn kc) : az_R zG zO (v_La_feed11V_zX zG zO zX zY zA zB j bk k mm) (v_La_feed11V_zY zG zO zX zY zA zB j bk k mm) zA (v_La_feed11V_zB zG zO zX zY zA zB j bk k mm) zM (v_Mo_feed1V_zI zM zI zL j kc bk k mm) (v_Mo_feed1V_zL zM zI zL j kc bk k mm) := by
  refine az_Rk hR ?_ (fr_feed1LL zM zI zL j kc bk k mm (by decide) _) (fr_feed1LL zM zI zL j kc bk k mm (by decide) _)
  exact (az_v_i (show 3 ≠ 10 by decide)).trans (fr_feed1LI zM zI zL j kc bk k mm (by decide) (by decide) (by decide) (by decide) _)
theorem r_seek1 {zG : Nat → Nat × Nat} {zO : Nat → Nat} {zX : Nat → Nat → Int64} {zY : Nat → Nat → Int32} {zA : Nat → Nat → Nat → Int32} {zB : Nat → Int32} {zM : Nat → Nat × Nat} {zI : Nat → Nat → Int32} {zL : Nat → Nat → Int64} {j : Nat} {b : Int64} (hR : az_R zG zO zX zY zA zB zM zI zL) (hj : j < 4) (hs : (zG j).1 = 3 ∧ (zG j).2 = 4) : az_R zG zO (v_La_seek1V_zX zX zY j b) (v_La_seek1V_zY zX zY j b) zA zB zM (v_Mo_seek1V_zI zI zL j b) (v_Mo_seek1V_zL zI zL j b) := by
  exact az_Rk hR rfl rfl rfl
theorem r_take10_Xb {zG : Nat → Nat × Nat} {zO : Nat → Nat} {zX : Nat → Nat → Int64} {zY : Nat → Nat → Int32} {zA : Nat → Nat → Nat → Int32} {zB : Nat → Int32} {zM : Nat → Nat × Nat} {zI : Nat → Nat → Int32} {zL : Nat → Nat → Int64} {j : Nat} (hR : az_R zG zO zX zY zA zB zM zI zL) (hj : j < 4) (hs : (zG j).1 = 3 ∧ (zG j).2 = 5)  : az_R zG zO zX (v_La_take10V_zY zY j) zA zB zM zI zL := by
  exact az_Rk hR rfl rfl rfl
theorem r_take10_1 {zG : Nat → Nat × Nat} {zO : Nat → Nat} {zX : Nat → Nat → Int64} {zY : Nat → Nat → Int32} {zA : Nat → Nat → Nat → Int32} {zB : Nat → Int32} {zM : Nat → Nat × Nat} {zI : Nat → Nat → Int32} {zL : Nat → Nat → Int64} {j k : Nat} (hR : az_R zG zO zX zY zA zB zM zI zL) (hj : j < 4) (hs : (zG j).1 = 3 ∧ (zG j).2 = 5) (hk : k ≤ 64) {kc : Nat} (hkc : kc < 5) (hci : zI 3 j = nI kc) (hco : zO j = az_cn kc) : az_R zG zO zX (v_La_take10V_zY zY j) zA zB zM (v_Mo_take1V_zI zI zL j kc k 0) (v_Mo_take1V_zL zI zL j kc k 0) := by
  refine az_Rk hR ?_ (fr_take1LL zI zL j kc k 0 (by decide) (by decide) _) (fr_take1LL zI zL j kc k 0 (by decide) (by decide) _)
  exact (az_v_i (show 3 ≠ 11 by decide)).trans (fr_take1LI zI zL j kc k 0 (by decide) (by decide) (by decide) _)
theorem r_take11_1 {zG : Nat → Nat × Nat} {zO : Nat → Nat} {zX : Nat → Nat → Int64} {zY : Nat → Nat → Int32} {zA : Nat → Nat → Nat → Int32} {zB : Nat → Int32} {zM : Nat → Nat × Nat} {zI : Nat → Nat → Int32} {zL : Nat → Nat → Int64} {j k mm : Nat} (hR : az_R zG zO zX zY zA zB zM zI zL) (hj : j < 4) (hs : (zG j).1 = 3 ∧ (zG j).2 = 5) (h0 : 0 < mm) (hk : k + mm ≤ 64) {kc : Nat} (hkc : kc < 5) (hci : zI 3 j = nI kc) (hco : zO j = az_cn kc) : az_R zG zO (v_La_take11V_zX zO zX zY zA zB j k mm) (v_La_take11V_zY zO zX zY zA zB j k mm) zA zB zM (v_Mo_take1V_zI zI zL j kc k mm) (v_Mo_take1V_zL zI zL j kc k mm) := by
  refine az_Rk hR ?_ (fr_take1LL zI zL j kc k mm (by decide) (by decide) _) (fr_take1LL zI zL j kc k mm (by decide) (by decide) _)
  exact (az_v_i (show 3 ≠ 11 by decide)).trans (fr_take1LI zI zL j kc k mm (by decide) (by decide) (by decide) _)
theorem r_tag1 {zG : Nat → Nat × Nat} {zO : Nat → Nat} {zX : Nat → Nat → Int64} {zY : Nat → Nat → Int32} {zA : Nat → Nat → Nat → Int32} {zB : Nat → Int32} {zM : Nat → Nat × Nat} {zI : Nat → Nat → Int32} {zL : Nat → Nat → Int64} {j : Nat} (hR : az_R zG zO zX zY zA zB zM zI zL) (hj : j < 4) (hs : (zG j).1 = 3 ∧ (zG j).2 = 5) {kc : Nat} (hkc : kc < 5) (hci : zI 3 j = nI kc) (hco : zO j = az_cn kc) : az_R zG zO (v_La_tag1V_zX zO zX zY zA j) (v_La_tag1V_zY zO zX zY zA j) zA zB zM (v_Mo_tag1V_zI zI zL j kc) (v_Mo_tag1V_zL zI zL j kc) := by
  refine az_Rk hR ?_ ?_ ?_
  · unfold v_Mo_tag1V_zI
    split
    · exact (fr_prep zI zL j kc (by decide) (by decide))
    · exact (fr_prep zI zL j kc (by decide) (by decide))
  · unfold v_Mo_tag1V_zL
    split
    · rfl
    · rfl
  · unfold v_Mo_tag1V_zL
    split
    · rfl
    · rfl
theorem q_wa (zA : Nat → Nat → Nat → Int32) (j kc : Nat) (hkc : kc < 5) (i : Int32) : v_Ci_wordAtV zA j (az_cn kc) i = (if i < 0 then (-1) else (if i < nI (az_wn kc) then zA j (az_wc kc) (i.toNatClampNeg) else (-1))) := by
  rcases (by omega : kc = 0 ∨ kc = 1 ∨ kc = 2 ∨ kc = 3 ∨ kc = 4) with rfl | rfl | rfl | rfl | rfl
  · rfl
  · rfl
  · rfl
  · rfl
  · rfl
theorem q_word1 {zG : Nat → Nat × Nat} {zO : Nat → Nat} {zX : Nat → Nat → Int64} {zY : Nat → Nat → Int32} {zA : Nat → Nat → Nat → Int32} {zB : Nat → Int32} {zM : Nat → Nat × Nat} {zI : Nat → Nat → Int32} {zL : Nat → Nat → Int64} {j : Nat} {i : Int32} (hR : az_R zG zO zX zY zA zB zM zI zL) (hj : j < 4) (hs : 2 ≤ (zG j).1) {kc : Nat} (hkc : kc < 5) (hci : zI 3 j = nI kc) (hco : zO j = az_cn kc) : v_La_word1V_zQ zO zA j i = Int32.toInt64 (v_Mo_word1V zI zL j kc i) := by
  show Int32.toInt64 (v_Ci_wordAtV zA j (zO j) i) = _
  rw [hco, q_wa zA j kc hkc i]
  unfold v_Mo_word1V
  congr 1
  by_cases h0 : i < 0
  · rw [if_pos h0, if_pos h0]
  · rw [if_neg h0, if_neg h0]
    by_cases h1 : i < nI (az_wn kc)
    · rw [if_pos h1, if_pos h1]
      have hw : az_wn kc ≤ 52 := by
        rcases (by omega : kc = 0 ∨ kc = 1 ∨ kc = 2 ∨ kc = 3 ∨ kc = 4) with rfl | rfl | rfl | rfl | rfl <;> decide
      obtain ⟨k, hk, rfl⟩ := aw_place h0 h1 (by omega)
      rw [nI_clamp (by omega), q_schM zI zL j kc hkc k hk]
      exact (hR.2.2 j kc hj hs hkc hci).1 k hk
    · rw [if_neg h1, if_neg h1]
