/-! The relation of class and reference in full. -/
def az_K (kc : Nat) (A : Nat → Nat → Int32) (a b : Int64) : Prop := (∀ i, i < az_wn kc → A (az_wc kc) i = az_sch kc a b i) ∧ (kc = 4 → az_U A)
def az_R (zG : Nat → Nat × Nat) (zO : Nat → Nat) (zX : Nat → Nat → Int64) (zY : Nat → Nat → Int32) (zA : Nat → Nat → Nat → Int32) (zB : Nat → Int32) (zM : Nat → Nat × Nat) (zI : Nat → Nat → Int32) (zL : Nat → Nat → Int64) : Prop := (∀ j, j < 4 → zG j = zM j) ∧ (∀ j, j < 4 → 1 ≤ (zG j).1 → ∃ kc, kc < 5 ∧ zI 3 j = nI kc ∧ zO j = az_cn kc) ∧ (∀ j kc, j < 4 → 2 ≤ (zG j).1 → kc < 5 → zI 3 j = nI kc → az_K kc (zA j) (zL 4 j) (zL 5 j)) ∧ (∀ p, p < 64 → zB p = zI 1 p) ∧ (∀ j, j < 4 → (zG j).1 = 3 → az_C (zG j).2 zX zY zA (zO j) zI zL j)
theorem az_Ce {m : Nat} {X X' : Nat → Nat → Int64} {Y Y' : Nat → Nat → Int32} {A : Nat → Nat → Nat → Int32} {o : Nat} {I I' : Nat → Nat → Int32} {L L' : Nat → Nat → Int64} {q : Nat} (h : az_C m X Y A o I L q) (hX : X' q = X q) (hY0 : Y' q 0 = Y q 0) (hY3 : Y' q 3 = Y q 3) (e : I' 9 q = I 9 q ∧ I' 14 q = I 14 q ∧ L' 7 q = L 7 q ∧ L' 8 q = L 8 q ∧ L' 12 q = L 12 q ∧ L' 13 q = L 13 q) : az_C m X' Y' A o I' L' q := by
  obtain ⟨e1, e2, e3, e4, e5, e6⟩ := e
  unfold az_C at h ⊢
  rw [hX, hY0, hY3, e1, e2, e3, e4, e5, e6]
  exact h
theorem az_Ru {zG : Nat → Nat × Nat} {zO : Nat → Nat} {zX : Nat → Nat → Int64} {zY : Nat → Nat → Int32} {zA : Nat → Nat → Nat → Int32} {zB : Nat → Int32} {zM : Nat → Nat × Nat} {zI : Nat → Nat → Int32} {zL : Nat → Nat → Int64} {X' : Nat → Nat → Int64} {Y' : Nat → Nat → Int32} {B' : Nat → Int32} {I' : Nat → Nat → Int32} {L' : Nat → Nat → Int64} {j : Nat} (h : az_R zG zO zX zY zA zB zM zI zL) (hF : az_F j zX X' zY Y' zI I' zL L') (hB : ∀ p, p < 64 → B' p = I' 1 p) (hC : (zG j).1 = 3 → az_C (zG j).2 X' Y' zA (zO j) I' L' j) : az_R zG zO X' Y' zA B' zM I' L' := by
  obtain ⟨f1, f2, f3, f4, f5, f6⟩ := hF
  refine ⟨h.1, fun q hq hs => ?_, fun q kc hq hs hkc hci => ?_, hB, fun q hq hs => ?_⟩
  · rw [f4]
    exact h.2.1 q hq hs
  · rw [f4] at hci
    rw [f5, f6]
    exact h.2.2.1 q kc hq hs hkc hci
  · by_cases hqj : q = j
    · rw [hqj] at hs ⊢
      exact hC hs
    · exact az_Ce (h.2.2.2.2 q hq hs) (f1 q hqj) (by rw [f2 q hqj]) (by rw [f2 q hqj]) (f3 q hqj)
theorem q_words {zG : Nat → Nat × Nat} {zO : Nat → Nat} {zX : Nat → Nat → Int64} {zY : Nat → Nat → Int32} {zA : Nat → Nat → Nat → Int32} {zB : Nat → Int32} {zM : Nat → Nat × Nat} {zI : Nat → Nat → Int32} {zL : Nat → Nat → Int64} {j : Nat} (hR : az_R zG zO zX zY zA zB zM zI zL) (hj : j < 4) (hs : 2 ≤ (zG j).1) {kc : Nat} (hkc : kc < 5) (hci : zI 3 j = nI kc) (hco : zO j = az_cn kc) : (∀ i, i < az_wn kc → zA j (az_wc kc) i = v_Mo_prepareJV_zI zI zL j kc 15 i) ∧ (kc = 4 → az_U (zA j)) :=
  ⟨fun i hi => ((hR.2.2.1 j kc hj hs hkc hci).1 i hi).trans (q_schM zI zL j kc hkc i hi).symm, (hR.2.2.1 j kc hj hs hkc hci).2⟩
theorem r_K (zA : Nat → Nat → Nat → Int32) (j kc : Nat) (a b : Int64) (hkc : kc < 5) : az_K kc (v_Ci_scheduleV_zA zA j (az_cn kc) a b j) a b := ⟨fun i hi => q_schA zA j kc a b hkc i hi, fun h => by rw [h]; exact q_unU zA j a b⟩
theorem q_onD {A A' : Nat → Nat → Nat → Int32} {q kc : Nat} (hkc : kc < 5) (h : A' q = A q) (b : Int64) : v_Ci_onV A' q (az_cn kc) b = v_Ci_onV A q (az_cn kc) b :=
  (q_onJ (zI := fun _ i => A q (az_wc kc) i) hkc b (fun i _ => by rw [h])).trans (q_onJ (zI := fun _ i => A q (az_wc kc) i) hkc b (fun i _ => rfl)).symm
theorem r_choose1 {zG : Nat → Nat × Nat} {zO : Nat → Nat} {zX : Nat → Nat → Int64} {zY : Nat → Nat → Int32} {zA : Nat → Nat → Nat → Int32} {zB : Nat → Int32} {zM : Nat → Nat × Nat} {zI : Nat → Nat → Int32} {zL : Nat → Nat → Int64} {j k : Nat} (hR : az_R zG zO zX zY zA zB zM zI zL) (hj : j < 4) (hk : k < 5) (hs : (zG j).1 = 0) : az_R (v_La_choose1V_zG zG zO j k) (v_La_choose1V_zO zG zO j k) zX zY zA zB (v_Mo_choose1V_zM zM zI j k) (v_Mo_choose1V_zI zM zI j k) zL := by
  show az_R (aw_g1 zG j 1) (az_u1 zO j (az_cn k)) zX zY zA zB (aw_g1 zM j 1) (az_v (az_v zI 2 j (nI 1)) 3 j (nI k)) zL
  refine ⟨fun q hq => ?_, fun q hq h1 => ?_, fun q kc hq h2 hkc hci => ?_, fun p hp => ?_, fun q hq h3 => ?_⟩
  · have e := hR.1 q hq
    by_cases hqj : q = j
    · rw [hqj] at e ⊢
      rw [aw_g1s, aw_g1s, e]
    · rw [aw_g1n _ _ hqj, aw_g1n _ _ hqj, e]
  · by_cases hqj : q = j
    · rw [hqj]
      exact ⟨k, hk, az_v_s, if_pos rfl⟩
    · rw [aw_g1n _ _ hqj] at h1
      obtain ⟨kc, a1, a2, a3⟩ := hR.2.1 q hq h1
      refine ⟨kc, a1, ?_, ?_⟩
      · rw [az_v_k hqj, az_v_i (show 3 ≠ 2 by decide)]
        exact a2
      · rw [show az_u1 zO j (az_cn k) q = zO q from if_neg hqj]
        exact a3
  · by_cases hqj : q = j
    · rw [hqj, aw_g1s] at h2
      have h2 : 2 ≤ 1 := h2
      omega
    · rw [aw_g1n _ _ hqj] at h2
      rw [az_v_k hqj, az_v_i (show 3 ≠ 2 by decide)] at hci
      exact hR.2.2.1 q kc hq h2 hkc hci
  · rw [az_v_i (show 1 ≠ 3 by decide), az_v_i (show 1 ≠ 2 by decide)]
    exact hR.2.2.2.1 p hp
  · by_cases hqj : q = j
    · rw [hqj, aw_g1s] at h3
      have h3 : 1 = 3 := h3
      omega
    · rw [aw_g1n _ _ hqj] at h3 ⊢
      rw [show az_u1 zO j (az_cn k) q = zO q from if_neg hqj]
      exact az_Ce (hR.2.2.2.2 q hq h3) rfl rfl rfl ⟨rfl, rfl, rfl, rfl, rfl, rfl⟩
theorem r_key1 {zG : Nat → Nat × Nat} {zO : Nat → Nat} {zX : Nat → Nat → Int64} {zY : Nat → Nat → Int32} {zA : Nat → Nat → Nat → Int32} {zB : Nat → Int32} {zM : Nat → Nat × Nat} {zI : Nat → Nat → Int32} {zL : Nat → Nat → Int64} {j : Nat} {a b : Int64} (hR : az_R zG zO zX zY zA zB zM zI zL) (hj : j < 4) (hs : ¬ (zG j).1 = 0) : az_R (v_La_key1V_zG zG zO zA j a b) zO zX zY (v_La_key1V_zA zG zO zA j a b) zB (v_Mo_key1V_zM zM zI zL j a b) (v_Mo_key1V_zI zM zI zL j a b) (v_Mo_key1V_zL zM zI zL j a b) := by
  show az_R (aw_g1 zG j 2) zO zX zY (v_Ci_scheduleV_zA zA j (zO j) a b) zB (aw_g1 zM j 2) (az_v zI 2 j (nI 2)) (az_vl (az_vl zL 4 j a) 5 j b)
  refine ⟨fun q hq => ?_, fun q hq h1 => ?_, fun q kc hq h2 hkc hci => ?_, fun p hp => ?_, fun q hq h3 => ?_⟩
  · have e := hR.1 q hq
    by_cases hqj : q = j
    · rw [hqj] at e ⊢
      rw [aw_g1s, aw_g1s, e]
    · rw [aw_g1n _ _ hqj, aw_g1n _ _ hqj, e]
  · rw [az_v_i (show 3 ≠ 2 by decide)]
    by_cases hqj : q = j
    · rw [hqj]
      exact hR.2.1 j hj (by omega)
    · rw [aw_g1n _ _ hqj] at h1
      exact hR.2.1 q hq h1
  · rw [az_v_i (show 3 ≠ 2 by decide)] at hci
    by_cases hqj : q = j
    · rw [hqj] at hci ⊢
      obtain ⟨kc9, a1, a2, a3⟩ := hR.2.1 j hj (by omega)
      have e9 : kc9 = kc := (nI_eq (by omega) (by omega)).mp (a2.symm.trans hci)
      rw [e9] at a3
      rw [a3, az_vl_i (show 4 ≠ 5 by decide), az_vl_s, az_vl_s]
      exact r_K zA j kc a b hkc
    · rw [aw_g1n _ _ hqj] at h2
      rw [fr_sched zA j (zO j) a b hqj, az_vl_i (show 4 ≠ 5 by decide), az_vl_k hqj, az_vl_k hqj, az_vl_i (show 5 ≠ 4 by decide)]
      exact hR.2.2.1 q kc hq h2 hkc hci
  · rw [az_v_i (show 1 ≠ 2 by decide)]
    exact hR.2.2.2.1 p hp
  · by_cases hqj : q = j
    · rw [hqj, aw_g1s] at h3
      have h3 : 2 = 3 := h3
      omega
    · rw [aw_g1n _ _ hqj] at h3 ⊢
      obtain ⟨kc, a1, a2, a3⟩ := hR.2.1 q hq (by omega)
      obtain ⟨c0, c1, c2, c3, c4, c5, c6, c7⟩ := hR.2.2.2.2 q hq h3
      refine ⟨c0, c1, c2, fun h4 h5 => ?_, c4, c5, c6, c7⟩
      rw [c3 h4 h5, a3]
      exact (q_onD a1 (fr_sched zA j (zO j) a b hqj) _).symm
theorem r_mode1 {zG : Nat → Nat × Nat} {zO : Nat → Nat} {zX : Nat → Nat → Int64} {zY : Nat → Nat → Int32} {zA : Nat → Nat → Nat → Int32} {zB : Nat → Int32} {zM : Nat → Nat × Nat} {zI : Nat → Nat → Int32} {zL : Nat → Nat → Int64} {j k : Nat} {b : Int64} (hR : az_R zG zO zX zY zA zB zM zI zL) (hj : j < 4) (hk : k ≤ 5) (hs : 2 ≤ (zG j).1) : az_R (v_La_mode1V_zG zG zX zY j k b) zO (v_La_mode1V_zX zG zX zY j k b) (v_La_mode1V_zY zG zX zY j k b) zA zB (v_Mo_mode1V_zM zM zI zL j k b) (v_Mo_mode1V_zI zM zI zL j k b) (v_Mo_mode1V_zL zM zI zL j k b) := by
  show az_R (aw_g1 (aw_g2 zG j k) j 3) zO (az_u2 (az_u2 (az_u2 (az_u2 zX j 0 b) j 1 b) j 3 0) j 4 0) (az_u2 (az_u2 (az_u2 (az_u2 zY j 0 (nI 0)) j 1 (nI 0)) j 2 (nI 0)) j 3 (nI 0)) zA zB (aw_g2 (aw_g1 zM j 3) j k) (az_v (az_v (az_v (az_v (az_v (az_v zI 2 j (nI 3)) 6 j (nI k)) 9 j (nI 0)) 10 j (nI 0)) 11 j (nI 0)) 14 j (nI 0)) (az_vl (az_vl (az_vl (az_vl zL 7 j b) 8 j b) 12 j 0) 13 j 0)
  have st : ∀ q, q < 4 → ∀ n, n ≤ 2 → n ≤ (aw_g1 (aw_g2 zG j k) j 3 q).1 → n ≤ (zG q).1 := by
    intro q hq n hn h
    by_cases hqj : q = j
    · rw [hqj]
      omega
    · rw [aw_g1n _ _ hqj, aw_g2n _ _ hqj] at h
      exact h
  refine ⟨fun q hq => ?_, fun q hq h1 => hR.2.1 q hq (st q hq 1 (by decide) h1), fun q kc hq h2 hkc hci => hR.2.2.1 q kc hq (st q hq 2 (by decide) h2) hkc hci, fun p hp => hR.2.2.2.1 p hp, fun q hq h3 => ?_⟩
  · have e := hR.1 q hq
    rw [aw_g12]
    by_cases hqj : q = j
    · rw [hqj] at e ⊢
      rw [aw_g2s, aw_g2s, aw_g1s, aw_g1s]
    · rw [aw_g2n _ _ hqj, aw_g2n _ _ hqj, aw_g1n _ _ hqj, aw_g1n _ _ hqj, e]
  · by_cases hqj : q = j
    · rw [hqj]
      have x0 : (az_u2 (az_u2 (az_u2 (az_u2 zX j 0 b) j 1 b) j 3 0) j 4 0) j 0 = b := by rw [az_u2_k (show 0 ≠ 4 by decide), az_u2_k (show 0 ≠ 3 by decide), az_u2_k (show 0 ≠ 1 by decide), az_u2_s]
      have x1 : (az_u2 (az_u2 (az_u2 (az_u2 zX j 0 b) j 1 b) j 3 0) j 4 0) j 1 = b := by rw [az_u2_k (show 1 ≠ 4 by decide), az_u2_k (show 1 ≠ 3 by decide), az_u2_s]
      have x3 : (az_u2 (az_u2 (az_u2 (az_u2 zX j 0 b) j 1 b) j 3 0) j 4 0) j 3 = 0 := by rw [az_u2_k (show 3 ≠ 4 by decide), az_u2_s]
      have x4 : (az_u2 (az_u2 (az_u2 (az_u2 zX j 0 b) j 1 b) j 3 0) j 4 0) j 4 = 0 := az_u2_s
      have y0 : (az_u2 (az_u2 (az_u2 (az_u2 zY j 0 (nI 0)) j 1 (nI 0)) j 2 (nI 0)) j 3 (nI 0)) j 0 = nI 0 := by rw [az_u2_k (show 0 ≠ 3 by decide), az_u2_k (show 0 ≠ 2 by decide), az_u2_k (show 0 ≠ 1 by decide), az_u2_s]
      have y3 : (az_u2 (az_u2 (az_u2 (az_u2 zY j 0 (nI 0)) j 1 (nI 0)) j 2 (nI 0)) j 3 (nI 0)) j 3 = nI 0 := az_u2_s
      refine ⟨?_, ?_, ?_, ?_, ?_, ?_, ?_, ⟨0, by decide, y3⟩⟩
      · rw [x0, az_vl_i (show 7 ≠ 13 by decide), az_vl_i (show 7 ≠ 12 by decide), az_vl_i (show 7 ≠ 8 by decide), az_vl_s]
      · rw [x1, az_vl_i (show 8 ≠ 13 by decide), az_vl_i (show 8 ≠ 12 by decide), az_vl_s]
      · rw [y0, az_v_i (show 9 ≠ 14 by decide), az_v_i (show 9 ≠ 11 by decide), az_v_i (show 9 ≠ 10 by decide), az_v_s]
      · intro _ h9
        rw [y0] at h9
        exact absurd rfl h9
      · rw [x3, az_vl_i (show 12 ≠ 13 by decide), az_vl_s]
      · rw [x4, az_vl_s]
      · rw [y3, az_v_s]
    · rw [aw_g1n _ _ hqj, aw_g2n _ _ hqj] at h3 ⊢
      refine az_Ce (hR.2.2.2.2 q hq h3) ?_ ?_ ?_ ⟨?_, ?_, ?_, ?_, ?_, ?_⟩
      · rw [az_u2_j hqj, az_u2_j hqj, az_u2_j hqj, az_u2_j hqj]
      · rw [az_u2_j hqj, az_u2_j hqj, az_u2_j hqj, az_u2_j hqj]
      · rw [az_u2_j hqj, az_u2_j hqj, az_u2_j hqj, az_u2_j hqj]
      · rw [az_v_i (show 9 ≠ 14 by decide), az_v_i (show 9 ≠ 11 by decide), az_v_i (show 9 ≠ 10 by decide), az_v_k hqj, az_v_i (show 9 ≠ 6 by decide), az_v_i (show 9 ≠ 2 by decide)]
      · rw [az_v_k hqj, az_v_i (show 14 ≠ 11 by decide), az_v_i (show 14 ≠ 10 by decide), az_v_i (show 14 ≠ 9 by decide), az_v_i (show 14 ≠ 6 by decide), az_v_i (show 14 ≠ 2 by decide)]
      · rw [az_vl_i (show 7 ≠ 13 by decide), az_vl_i (show 7 ≠ 12 by decide), az_vl_i (show 7 ≠ 8 by decide), az_vl_k hqj]
      · rw [az_vl_i (show 8 ≠ 13 by decide), az_vl_i (show 8 ≠ 12 by decide), az_vl_k hqj, az_vl_i (show 8 ≠ 7 by decide)]
      · rw [az_vl_i (show 12 ≠ 13 by decide), az_vl_k hqj, az_vl_i (show 12 ≠ 8 by decide), az_vl_i (show 12 ≠ 7 by decide)]
      · rw [az_vl_k hqj, az_vl_i (show 13 ≠ 12 by decide), az_vl_i (show 13 ≠ 8 by decide), az_vl_i (show 13 ≠ 7 by decide)]
theorem r_free1 {zG : Nat → Nat × Nat} {zO : Nat → Nat} {zX : Nat → Nat → Int64} {zY : Nat → Nat → Int32} {zA : Nat → Nat → Nat → Int32} {zB : Nat → Int32} {zM : Nat → Nat × Nat} {zI : Nat → Nat → Int32} {zL : Nat → Nat → Int64} {j : Nat} (hR : az_R zG zO zX zY zA zB zM zI zL) (hj : j < 4) : az_R (v_La_free1V_zG zG j) zO zX zY zA zB (v_Mo_free1V_zM zM zI j) (v_Mo_free1V_zI zM zI j) zL := by
  show az_R (aw_g1 zG j 0) zO zX zY zA zB (aw_g1 zM j 0) (az_v zI 2 j (nI 0)) zL
  have st : ∀ q, q < 4 → ∀ n, 1 ≤ n → n ≤ (aw_g1 zG j 0 q).1 → n ≤ (zG q).1 ∧ q ≠ j := by
    intro q hq n hn h
    by_cases hqj : q = j
    · rw [hqj, aw_g1s] at h
      have h : n ≤ 0 := h
      omega
    · rw [aw_g1n _ _ hqj] at h
      exact ⟨h, hqj⟩
  refine ⟨fun q hq => ?_, fun q hq h1 => hR.2.1 q hq (st q hq 1 (by decide) h1).1, fun q kc hq h2 hkc hci => hR.2.2.1 q kc hq (st q hq 2 (by decide) h2).1 hkc hci, fun p hp => hR.2.2.2.1 p hp, fun q hq h3 => ?_⟩
  · have e := hR.1 q hq
    by_cases hqj : q = j
    · rw [hqj] at e ⊢
      rw [aw_g1s, aw_g1s, e]
    · rw [aw_g1n _ _ hqj, aw_g1n _ _ hqj, e]
  · have hqj := (st q hq 3 (by decide) (by omega)).2
    rw [aw_g1n _ _ hqj] at h3 ⊢
    exact az_Ce (hR.2.2.2.2 q hq h3) rfl rfl rfl ⟨rfl, rfl, rfl, rfl, rfl, rfl⟩
theorem az_Fq {j : Nat} {X : Nat → Nat → Int64} {Y : Nat → Nat → Int32} {I I' : Nat → Nat → Int32} {L : Nat → Nat → Int64} (e : ∀ c, c ≠ 15 → c ≠ 16 → I' c = I c) : az_F j X X Y Y I I' L L := ⟨fun _ _ => rfl, fun _ _ => rfl, fun q _ => ⟨by rw [e 9 (by decide) (by decide)], by rw [e 14 (by decide) (by decide)], rfl, rfl, rfl, rfl⟩, e 3 (by decide) (by decide), rfl, rfl⟩
theorem az_Rp {zG : Nat → Nat × Nat} {zO : Nat → Nat} {zX : Nat → Nat → Int64} {zY : Nat → Nat → Int32} {zA : Nat → Nat → Nat → Int32} {zB : Nat → Int32} {zM : Nat → Nat × Nat} {zI : Nat → Nat → Int32} {zL : Nat → Nat → Int64} {I' : Nat → Nat → Int32} {j : Nat} (hR : az_R zG zO zX zY zA zB zM zI zL) (hj : j < 4) (e : ∀ c, c ≠ 15 → c ≠ 16 → I' c = zI c) : az_R zG zO zX zY zA zB zM I' zL :=
  az_Ru (j := j) hR (az_Fq e) (fun p hp => by rw [e 1 (by decide) (by decide)]; exact hR.2.2.2.1 p hp) (fun hs => az_Ce (hR.2.2.2.2 j hj hs) rfl rfl rfl ⟨by rw [e 9 (by decide) (by decide)], by rw [e 14 (by decide) (by decide)], rfl, rfl, rfl, rfl⟩)
theorem r_block1 {zG : Nat → Nat × Nat} {zO : Nat → Nat} {zX : Nat → Nat → Int64} {zY : Nat → Nat → Int32} {zA : Nat → Nat → Nat → Int32} {zB : Nat → Int32} {zM : Nat → Nat × Nat} {zI : Nat → Nat → Int32} {zL : Nat → Nat → Int64} {j : Nat} {bk : Int32} {b : Int64} (hR : az_R zG zO zX zY zA zB zM zI zL) (hj : j < 4) (hs : 2 ≤ (zG j).1) {kc : Nat} (hkc : kc < 5) (hci : zI 3 j = nI kc) (hco : zO j = az_cn kc) : az_R zG zO zX zY zA zB zM (v_Mo_block1V_zI zI zL j kc bk b) zL := by
  refine az_Rp hR hj ?_
  unfold v_Mo_block1V_zI
  split
  · exact fun c h5 h6 => fr_prep zI zL j kc h5 h6
  · exact fun c h5 h6 => fr_prep zI zL j kc h5 h6
theorem r_word1 {zG : Nat → Nat × Nat} {zO : Nat → Nat} {zX : Nat → Nat → Int64} {zY : Nat → Nat → Int32} {zA : Nat → Nat → Nat → Int32} {zB : Nat → Int32} {zM : Nat → Nat × Nat} {zI : Nat → Nat → Int32} {zL : Nat → Nat → Int64} {j : Nat} {i : Int32} (hR : az_R zG zO zX zY zA zB zM zI zL) (hj : j < 4) (hs : 2 ≤ (zG j).1) {kc : Nat} (hkc : kc < 5) (hci : zI 3 j = nI kc) (hco : zO j = az_cn kc) : az_R zG zO zX zY zA zB zM (v_Mo_word1V_zI zI zL j kc i) zL := by
  refine az_Rp hR hj ?_
  unfold v_Mo_word1V_zI
  repeat' split
  all_goals exact fun c h5 h6 => fr_prep zI zL j kc h5 h6
theorem r_put1 {zG : Nat → Nat × Nat} {zO : Nat → Nat} {zX : Nat → Nat → Int64} {zY : Nat → Nat → Int32} {zA : Nat → Nat → Nat → Int32} {zB : Nat → Int32} {zM : Nat → Nat × Nat} {zI : Nat → Nat → Int32} {zL : Nat → Nat → Int64} {k : Nat} {b : Int32} (hR : az_R zG zO zX zY zA zB zM zI zL) (hk : k < 64) : az_R zG zO zX zY zA (v_La_put1V_zB zB k b) zM (v_Mo_put1V_zI zI k b) zL := by
  refine ⟨hR.1, hR.2.1, hR.2.2.1, q_bu hR.2.2.2.1 rfl, fun q hq h3 => ?_⟩
  exact az_Ce (hR.2.2.2.2 q hq h3) rfl rfl rfl ⟨rfl, rfl, rfl, rfl, rfl, rfl⟩
theorem az_RY {zG : Nat → Nat × Nat} {zO : Nat → Nat} {zX : Nat → Nat → Int64} {zY : Nat → Nat → Int32} {zA : Nat → Nat → Nat → Int32} {zB : Nat → Int32} {zM : Nat → Nat × Nat} {zI : Nat → Nat → Int32} {zL : Nat → Nat → Int64} {j k : Nat} {v : Int32} (hR : az_R zG zO zX zY zA zB zM zI zL) (h0 : 0 ≠ k) (h3 : 3 ≠ k) : az_R zG zO zX (az_u2 zY j k v) zA zB zM zI zL :=
  ⟨hR.1, hR.2.1, hR.2.2.1, hR.2.2.2.1, fun q hq hs => az_Ce (hR.2.2.2.2 q hq hs) rfl (az_u2_k h0) (az_u2_k h3) ⟨rfl, rfl, rfl, rfl, rfl, rfl⟩⟩
theorem az_RI {zG : Nat → Nat × Nat} {zO : Nat → Nat} {zX : Nat → Nat → Int64} {zY : Nat → Nat → Int32} {zA : Nat → Nat → Nat → Int32} {zB : Nat → Int32} {zM : Nat → Nat × Nat} {zI : Nat → Nat → Int32} {zL : Nat → Nat → Int64} {j c : Nat} {v : Int32} (hR : az_R zG zO zX zY zA zB zM zI zL) (h1 : 1 ≠ c) (h3 : 3 ≠ c) (h9 : 9 ≠ c) (h14 : 14 ≠ c) : az_R zG zO zX zY zA zB zM (az_v zI c j v) zL := by
  refine ⟨hR.1, fun q hq hs => ?_, fun q kc hq hs hkc hci => ?_, fun p hp => ?_, fun q hq hs => az_Ce (hR.2.2.2.2 q hq hs) rfl rfl rfl ⟨by rw [az_v_i h9], by rw [az_v_i h14], rfl, rfl, rfl, rfl⟩⟩
  · rw [az_v_i h3]
    exact hR.2.1 q hq hs
  · rw [az_v_i h3] at hci
    exact hR.2.2.1 q kc hq hs hkc hci
  · rw [az_v_i h1]
    exact hR.2.2.2.1 p hp
theorem r_feed10b_Xb {zG : Nat → Nat × Nat} {zO : Nat → Nat} {zX : Nat → Nat → Int64} {zY : Nat → Nat → Int32} {zA : Nat → Nat → Nat → Int32} {zB : Nat → Int32} {zM : Nat → Nat × Nat} {zI : Nat → Nat → Int32} {zL : Nat → Nat → Int64} {j : Nat} (hR : az_R zG zO zX zY zA zB zM zI zL) (hj : j < 4) (hs : (zG j).1 = 3) (hm : (zG j).2 ≤ 1) : az_R zG zO zX (v_La_feed10bV_zY zY j) zA zB zM zI zL := by
  exact az_RY hR (by decide) (by decide)
theorem r_feed10_Xb {zG : Nat → Nat × Nat} {zO : Nat → Nat} {zX : Nat → Nat → Int64} {zY : Nat → Nat → Int32} {zA : Nat → Nat → Nat → Int32} {zB : Nat → Int32} {zM : Nat → Nat × Nat} {zI : Nat → Nat → Int32} {zL : Nat → Nat → Int64} {j : Nat} (hR : az_R zG zO zX zY zA zB zM zI zL) (hj : j < 4) (hs : (zG j).1 = 3) (hm : 2 ≤ (zG j).2) : az_R zG zO zX (v_La_feed10V_zY zY j) zA zB zM zI zL := by
  exact az_RY hR (by decide) (by decide)
theorem r_feed10b_8 {zG : Nat → Nat × Nat} {zO : Nat → Nat} {zX : Nat → Nat → Int64} {zY : Nat → Nat → Int32} {zA : Nat → Nat → Nat → Int32} {zB : Nat → Int32} {zM : Nat → Nat × Nat} {zI : Nat → Nat → Int32} {zL : Nat → Nat → Int64} {j k : Nat} {bk : Int32} (hR : az_R zG zO zX zY zA zB zM zI zL) (hj : j < 4) (hs : (zG j).1 = 3) (hm : (zG j).2 ≤ 1) (hk : k ≤ 64) {kc : Nat} (hkc : kc < 5) (hci : zI 3 j = nI kc) (hco : zO j = az_cn kc) : az_R zG zO zX (v_La_feed10bV_zY zY j) zA zB zM (v_Mo_feed8V_zI zM zI zL j kc bk k 0) (v_Mo_feed8V_zL zM zI zL j kc bk k 0) := by
  have hg := hR.1 j hj
  obtain ⟨hw, hu⟩ := q_words hR hj (by omega) hkc hci hco
  have hc := hR.2.2.2.2 j hj hs
  obtain ⟨s1, s2, s3, s4⟩ := lp_block (zG := zG) (zM := zM) (k := k) (mm := 0) (mr := 0) (bk := bk) hkc hco rfl (by rw [hg]) hm hw hu hR.2.2.2.1 hc 0 (by omega)
  have h := az_Ru (j := j) hR s3 s2 (fun _ => s1)
  exact az_RI (az_RY h (by decide) (by decide)) (by decide) (by decide) (by decide) (by decide)
theorem r_feed10_1 {zG : Nat → Nat × Nat} {zO : Nat → Nat} {zX : Nat → Nat → Int64} {zY : Nat → Nat → Int32} {zA : Nat → Nat → Nat → Int32} {zB : Nat → Int32} {zM : Nat → Nat × Nat} {zI : Nat → Nat → Int32} {zL : Nat → Nat → Int64} {j k : Nat} {bk : Int32} (hR : az_R zG zO zX zY zA zB zM zI zL) (hj : j < 4) (hs : (zG j).1 = 3) (hm : 2 ≤ (zG j).2) (hm4 : (zG j).2 ≤ 4) (hk : k ≤ 64) {kc : Nat} (hkc : kc < 5) (hci : zI 3 j = nI kc) (hco : zO j = az_cn kc) : az_R zG zO zX (v_La_feed10V_zY zY j) zA zB zM (v_Mo_feed1V_zI zM zI zL j kc bk k 0) (v_Mo_feed1V_zL zM zI zL j kc bk k 0) := by
  have hg := hR.1 j hj
  obtain ⟨hw, hu⟩ := q_words hR hj (by omega) hkc hci hco
  have hc := hR.2.2.2.2 j hj hs
  obtain ⟨s1, s2, s3, s4⟩ := lp_byte (zG := zG) (zM := zM) (k := k) (mm := 0) (bk := bk) hkc hco rfl (by rw [hg]) hm hm4 hw hR.2.2.2.1 hc 0 (by omega)
  have h := az_Ru (j := j) hR s3 s2 (fun _ => s1)
  exact az_RI (az_RY h (by decide) (by decide)) (by decide) (by decide) (by decide) (by decide)
theorem r_feed18_8 {zG : Nat → Nat × Nat} {zO : Nat → Nat} {zX : Nat → Nat → Int64} {zY : Nat → Nat → Int32} {zA : Nat → Nat → Nat → Int32} {zB : Nat → Int32} {zM : Nat → Nat × Nat} {zI : Nat → Nat → Int32} {zL : Nat → Nat → Int64} {j k q : Nat} {bk : Int32} (hR : az_R zG zO zX zY zA zB zM zI zL) (hj : j < 4) (hs : (zG j).1 = 3) (hm : (zG j).2 ≤ 1) (h0 : 0 < 8 * q) (hk : k + 8 * q ≤ 64) {kc : Nat} (hkc : kc < 5) (hci : zI 3 j = nI kc) (hco : zO j = az_cn kc) : az_R zG zO (v_La_feed18V_zX zG zO zX zY zA zB j bk k q) (v_La_feed18V_zY zG zO zX zY zA zB j bk k q) zA (v_La_feed18V_zB zG zO zX zY zA zB j bk k q) zM (v_Mo_feed8V_zI zM zI zL j kc bk k (8 * q)) (v_Mo_feed8V_zL zM zI zL j kc bk k (8 * q)) := by
  have hg := hR.1 j hj
  obtain ⟨hw, hu⟩ := q_words hR hj (by omega) hkc hci hco
  have hc := hR.2.2.2.2 j hj hs
  obtain ⟨s1, s2, s3, s4⟩ := lp_block (zG := zG) (zM := zM) (k := k) (mm := q) (mr := 8 * q) (bk := bk) hkc hco rfl (by rw [hg]) hm hw hu hR.2.2.2.1 hc q (by omega)
  have h := az_Ru (j := j) hR s3 s2 (fun _ => s1)
  exact az_RI (az_RY h (by decide) (by decide)) (by decide) (by decide) (by decide) (by decide)
theorem r_feed11_1 {zG : Nat → Nat × Nat} {zO : Nat → Nat} {zX : Nat → Nat → Int64} {zY : Nat → Nat → Int32} {zA : Nat → Nat → Nat → Int32} {zB : Nat → Int32} {zM : Nat → Nat × Nat} {zI : Nat → Nat → Int32} {zL : Nat → Nat → Int64} {j k mm : Nat} {bk : Int32} (hR : az_R zG zO zX zY zA zB zM zI zL) (hj : j < 4) (hs : (zG j).1 = 3) (hm : 2 ≤ (zG j).2) (hm4 : (zG j).2 ≤ 4) (h0 : 0 < mm) (hk : k + mm ≤ 64) {kc : Nat} (hkc : kc < 5) (hci : zI 3 j = nI kc) (hco : zO j = az_cn kc) : az_R zG zO (v_La_feed11V_zX zG zO zX zY zA zB j bk k mm) (v_La_feed11V_zY zG zO zX zY zA zB j bk k mm) zA (v_La_feed11V_zB zG zO zX zY zA zB j bk k mm) zM (v_Mo_feed1V_zI zM zI zL j kc bk k mm) (v_Mo_feed1V_zL zM zI zL j kc bk k mm) := by
  have hg := hR.1 j hj
  obtain ⟨hw, hu⟩ := q_words hR hj (by omega) hkc hci hco
  have hc := hR.2.2.2.2 j hj hs
  obtain ⟨s1, s2, s3, s4⟩ := lp_byte (zG := zG) (zM := zM) (k := k) (mm := mm) (bk := bk) hkc hco rfl (by rw [hg]) hm hm4 hw hR.2.2.2.1 hc mm (by omega)
  have h := az_Ru (j := j) hR s3 s2 (fun _ => s1)
  exact az_RI (az_RY h (by decide) (by decide)) (by decide) (by decide) (by decide) (by decide)
theorem r_seek1 {zG : Nat → Nat × Nat} {zO : Nat → Nat} {zX : Nat → Nat → Int64} {zY : Nat → Nat → Int32} {zA : Nat → Nat → Nat → Int32} {zB : Nat → Int32} {zM : Nat → Nat × Nat} {zI : Nat → Nat → Int32} {zL : Nat → Nat → Int64} {j : Nat} {b : Int64} (hR : az_R zG zO zX zY zA zB zM zI zL) (hj : j < 4) (hs : (zG j).1 = 3 ∧ (zG j).2 = 4) : az_R zG zO (v_La_seek1V_zX zX zY j b) (v_La_seek1V_zY zX zY j b) zA zB zM (v_Mo_seek1V_zI zI zL j b) (v_Mo_seek1V_zL zI zL j b) := by
  show az_R zG zO (az_u2 zX j 1 (zX j 0 + b)) (az_u2 zY j 0 (nI 0)) zA zB zM (az_v zI 9 j (nI 0)) (az_vl zL 8 j (zL 7 j + b))
  obtain ⟨c0, c1, c2, c3, c4, c5, c6, c7⟩ := hR.2.2.2.2 j hj hs.1
  refine az_Ru (j := j) hR ⟨fun q hq => az_u2_j hq, fun q hq => az_u2_j hq, fun q hq => ⟨az_v_k hq, rfl, rfl, az_vl_k hq, rfl, rfl⟩, rfl, rfl, rfl⟩ (fun p hp => hR.2.2.2.1 p hp) (fun _ => ⟨?_, ?_, ?_, ?_, ?_, ?_, ?_, ?_⟩)
  · rw [az_u2_k (show 0 ≠ 1 by decide), az_vl_i (show 7 ≠ 8 by decide)]; exact c0
  · rw [az_u2_s, az_vl_s, c0]
  · rw [az_u2_s, az_v_s]
  · intro _ h9
    rw [az_u2_s] at h9
    exact absurd rfl h9
  · rw [az_u2_k (show 3 ≠ 1 by decide)]; exact c4
  · rw [az_u2_k (show 4 ≠ 1 by decide)]; exact c5
  · rw [az_u2_k (show 3 ≠ 0 by decide)]; exact c6
  · rw [az_u2_k (show 3 ≠ 0 by decide)]; exact c7
theorem r_take10_Xb {zG : Nat → Nat × Nat} {zO : Nat → Nat} {zX : Nat → Nat → Int64} {zY : Nat → Nat → Int32} {zA : Nat → Nat → Nat → Int32} {zB : Nat → Int32} {zM : Nat → Nat × Nat} {zI : Nat → Nat → Int32} {zL : Nat → Nat → Int64} {j : Nat} (hR : az_R zG zO zX zY zA zB zM zI zL) (hj : j < 4) (hs : (zG j).1 = 3 ∧ (zG j).2 = 5)  : az_R zG zO zX (v_La_take10V_zY zY j) zA zB zM zI zL := by
  exact az_RY hR (by decide) (by decide)
theorem r_take10_1 {zG : Nat → Nat × Nat} {zO : Nat → Nat} {zX : Nat → Nat → Int64} {zY : Nat → Nat → Int32} {zA : Nat → Nat → Nat → Int32} {zB : Nat → Int32} {zM : Nat → Nat × Nat} {zI : Nat → Nat → Int32} {zL : Nat → Nat → Int64} {j k : Nat} (hR : az_R zG zO zX zY zA zB zM zI zL) (hj : j < 4) (hs : (zG j).1 = 3 ∧ (zG j).2 = 5) (hk : k ≤ 64) {kc : Nat} (hkc : kc < 5) (hci : zI 3 j = nI kc) (hco : zO j = az_cn kc) : az_R zG zO zX (v_La_take10V_zY zY j) zA zB zM (v_Mo_take1V_zI zI zL j kc k 0) (v_Mo_take1V_zL zI zL j kc k 0) := by
  obtain ⟨hw, hu⟩ := q_words hR hj (by omega) hkc hci hco
  have hc := hR.2.2.2.2 j hj hs.1
  rw [hs.2] at hc
  obtain ⟨s1, s2, s3, s4⟩ := lp_take (k := k) (mm := 0) (mr := 0) hkc hco hw hR.2.2.2.1 hc 0 (by omega)
  have h := az_Ru (j := j) hR s3 s2 (fun _ => by rw [hs.2]; exact s1)
  exact az_RI (az_RY h (by decide) (by decide)) (by decide) (by decide) (by decide) (by decide)
theorem r_take11_1 {zG : Nat → Nat × Nat} {zO : Nat → Nat} {zX : Nat → Nat → Int64} {zY : Nat → Nat → Int32} {zA : Nat → Nat → Nat → Int32} {zB : Nat → Int32} {zM : Nat → Nat × Nat} {zI : Nat → Nat → Int32} {zL : Nat → Nat → Int64} {j k mm : Nat} (hR : az_R zG zO zX zY zA zB zM zI zL) (hj : j < 4) (hs : (zG j).1 = 3 ∧ (zG j).2 = 5) (h0 : 0 < mm) (hk : k + mm ≤ 64) {kc : Nat} (hkc : kc < 5) (hci : zI 3 j = nI kc) (hco : zO j = az_cn kc) : az_R zG zO (v_La_take11V_zX zO zX zY zA zB j k mm) (v_La_take11V_zY zO zX zY zA zB j k mm) zA zB zM (v_Mo_take1V_zI zI zL j kc k mm) (v_Mo_take1V_zL zI zL j kc k mm) := by
  obtain ⟨hw, hu⟩ := q_words hR hj (by omega) hkc hci hco
  have hc := hR.2.2.2.2 j hj hs.1
  rw [hs.2] at hc
  obtain ⟨s1, s2, s3, s4⟩ := lp_take (k := k) (mm := mm) (mr := mm) hkc hco hw hR.2.2.2.1 hc mm (by omega)
  have h := az_Ru (j := j) hR s3 s2 (fun _ => by rw [hs.2]; exact s1)
  exact az_RI (az_RY h (by decide) (by decide)) (by decide) (by decide) (by decide) (by decide)
theorem r_tag1 {zG : Nat → Nat × Nat} {zO : Nat → Nat} {zX : Nat → Nat → Int64} {zY : Nat → Nat → Int32} {zA : Nat → Nat → Nat → Int32} {zB : Nat → Int32} {zM : Nat → Nat × Nat} {zI : Nat → Nat → Int32} {zL : Nat → Nat → Int64} {j : Nat} (hR : az_R zG zO zX zY zA zB zM zI zL) (hj : j < 4) (hs : (zG j).1 = 3 ∧ (zG j).2 = 5) {kc : Nat} (hkc : kc < 5) (hci : zI 3 j = nI kc) (hco : zO j = az_cn kc) : az_R zG zO (v_La_tag1V_zX zO zX zY zA j) (v_La_tag1V_zY zO zX zY zA j) zA zB zM (v_Mo_tag1V_zI zI zL j kc) (v_Mo_tag1V_zL zI zL j kc) := by
  have eI : v_Mo_tag1V_zI zI zL j kc = az_v (az_v (v_Mo_prepareJV_zI zI zL j kc) 11 j (nI 0)) 14 j (nI 0) := by
    unfold v_Mo_tag1V_zI
    split
    · rfl
    · rfl
  have eL : v_Mo_tag1V_zL zI zL j kc = az_vl (az_vl zL 12 j 0) 13 j 0 := by
    unfold v_Mo_tag1V_zL
    split
    · rfl
    · rfl
  have e : ∀ c, c ≠ 15 → c ≠ 16 → v_Mo_prepareJV_zI zI zL j kc c = zI c := fun c h5 h6 => fr_prep zI zL j kc h5 h6
  rw [eI, eL]
  show az_R zG zO (az_u2 (az_u2 zX j 3 0) j 4 0) (az_u2 (az_u2 zY j 2 (nI 0)) j 3 (nI 0)) zA zB zM _ _
  obtain ⟨c0, c1, c2, c3, c4, c5, c6, c7⟩ := hR.2.2.2.2 j hj hs.1
  refine az_Ru (j := j) hR ⟨fun q hq => (az_u2_j hq).trans (az_u2_j hq), fun q hq => (az_u2_j hq).trans (az_u2_j hq), fun q hq => ⟨?_, ?_, rfl, rfl, ?_, ?_⟩, ?_, rfl, rfl⟩ (fun p hp => ?_) (fun _ => ⟨?_, ?_, ?_, ?_, ?_, ?_, ?_, ?_⟩)
  · rw [az_v_i (show 9 ≠ 14 by decide), az_v_i (show 9 ≠ 11 by decide), e 9 (by decide) (by decide)]
  · rw [az_v_k hq, az_v_i (show 14 ≠ 11 by decide), e 14 (by decide) (by decide)]
  · rw [az_vl_i (show 12 ≠ 13 by decide), az_vl_k hq]
  · rw [az_vl_k hq, az_vl_i (show 13 ≠ 12 by decide)]
  · rw [az_v_i (show 3 ≠ 14 by decide), az_v_i (show 3 ≠ 11 by decide), e 3 (by decide) (by decide)]
  · rw [az_v_i (show 1 ≠ 14 by decide), az_v_i (show 1 ≠ 11 by decide), e 1 (by decide) (by decide)]
    exact hR.2.2.2.1 p hp
  · rw [az_u2_k (show 0 ≠ 4 by decide), az_u2_k (show 0 ≠ 3 by decide)]; exact c0
  · rw [az_u2_k (show 1 ≠ 4 by decide), az_u2_k (show 1 ≠ 3 by decide)]; exact c1
  · rw [az_u2_k (show 0 ≠ 3 by decide), az_u2_k (show 0 ≠ 2 by decide), az_v_i (show 9 ≠ 14 by decide), az_v_i (show 9 ≠ 11 by decide), e 9 (by decide) (by decide)]; exact c2
  · intro h4
    rw [hs.2] at h4
    exact absurd h4 (by decide)
  · rw [az_u2_k (show 3 ≠ 4 by decide), az_u2_s, az_vl_i (show 12 ≠ 13 by decide), az_vl_s]
  · rw [az_u2_s, az_vl_s]
  · rw [az_u2_s, az_v_s]
  · exact ⟨0, by decide, az_u2_s⟩
theorem q_get1 {zG : Nat → Nat × Nat} {zO : Nat → Nat} {zX : Nat → Nat → Int64} {zY : Nat → Nat → Int32} {zA : Nat → Nat → Nat → Int32} {zB : Nat → Int32} {zM : Nat → Nat × Nat} {zI : Nat → Nat → Int32} {zL : Nat → Nat → Int64} {k : Nat} (hR : az_R zG zO zX zY zA zB zM zI zL) (hk : k < 64) : v_La_get1V_zQ zB k = Int32.toInt64 (v_Mo_get1V zI k) := by
  show Int32.toInt64 (zB k) = Int32.toInt64 (zI 1 k)
  rw [hR.2.2.2.1 k hk]
theorem q_dbl (x : Int64) : v_Tk_doubledV x = v_Mo_twiceV x := by
  have e : jL_shl x (nI 1) = 2 * x := by
    apply Int64.toBitVec_inj.mp
    rw [q_shl x 1 (by decide), Int64.toBitVec_mul]
    apply BitVec.eq_of_toNat_eq
    rw [BitVec.toNat_shiftLeft, BitVec.toNat_mul, Nat.shiftLeft_eq]
    show x.toBitVec.toNat * 2 ^ 1 % 2 ^ 64 = 2 * x.toBitVec.toNat % 2 ^ 64
    omega
  unfold v_Tk_doubledV v_Mo_twiceV
  rw [e]
theorem q_tag1 {zG : Nat → Nat × Nat} {zO : Nat → Nat} {zX : Nat → Nat → Int64} {zY : Nat → Nat → Int32} {zA : Nat → Nat → Nat → Int32} {zB : Nat → Int32} {zM : Nat → Nat × Nat} {zI : Nat → Nat → Int32} {zL : Nat → Nat → Int64} {j : Nat} (hR : az_R zG zO zX zY zA zB zM zI zL) (hj : j < 4) (hs : (zG j).1 = 3 ∧ (zG j).2 = 5) {kc : Nat} (hkc : kc < 5) (hci : zI 3 j = nI kc) (hco : zO j = az_cn kc) : v_La_tag1V_zQ zO zX zY zA j = v_Mo_tag1V zI zL j kc := by
  obtain ⟨hw, hu⟩ := q_words hR hj (by omega) hkc hci hco
  obtain ⟨c0, c1, c2, c3, c4, c5, c6, n, hn, c7⟩ := hR.2.2.2.2 j hj hs.1
  have on : ∀ b, v_Ci_onV zA j (zO j) b = v_Mo_onJV (v_Mo_prepareJV_zI zI zL j kc) kc b := fun b => by rw [hco]; exact q_onJ hkc b hw
  show v_Tk_tagByV zX zY zA j (zO j) = _
  unfold v_Tk_tagByV v_Mo_tag1V
  rw [fr_prep zI zL j kc (show 14 ≠ 15 by decide) (show 14 ≠ 16 by decide), ← c6]
  by_cases h8 : n = 8
  · rw [if_pos (show nI 8 ≤ zY j 3 by rw [c7, h8]; exact (nI_leI (by decide) (by decide)).mpr (Nat.le_refl 8)), if_pos (show zY j 3 = nI 8 by rw [c7, h8]), on, on, q_dbl, Int64.xor_assoc, c4, c5]
  · rw [if_neg (show ¬ nI 8 ≤ zY j 3 by rw [c7]; exact q_le (by decide) (by omega) (by omega)), if_neg (show ¬ zY j 3 = nI 8 by rw [c7]; exact q_ne (by omega) (by decide) h8), on, on, q_dbl, q_dbl, Int64.xor_assoc, c4, c5]
    unfold v_Tk_atByteV
    rw [show Int32.toInt64 (nI 128) = 128 by decide +kernel]
