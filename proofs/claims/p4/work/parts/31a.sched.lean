/-! Reads over writes; the class's schedules and the reference's. -/
theorem az_qw {A : Nat → Nat → Nat → Int32} {I : Nat → Nat → Int32} {j i r k c : Nat} {x y : Int32} (hxy : x = y) (h : c ≠ k → A j i c = I r c) : az_w A j i k x j i c = az_v I r k y r c := by
  by_cases hc : c = k
  · rw [hc, az_w_s, az_v_s, hxy]
  · rw [az_w_k hc, az_v_k hc]
    exact h hc
theorem q_s1 (zA : Nat → Nat → Nat → Int32) (j : Nat) (zI : Nat → Nat → Int32) (zL : Nat → Nat → Int64) (c : Nat) : ∀ t i, i < t → v_Xt_scheduleV_L3 zA j (zL 4 c) (zL 5 c) t j 6 i = v_Mo_prepare1V_L59 zI zL c t 15 i := by
  intro t
  induction t with
  | zero => intro i hi; omega
  | succ t ih =>
    intro i hi
    rw [v_Xt_scheduleV_L3_s, v_Mo_prepare1V_L59_s]
    exact az_qw (q_kq zL c (nI t)) (fun hc => ih i (by omega))
theorem q_bit : ∀ n, n < 40 → v_Si_zBitV (nI n) = v_Mo_bitV (nI n) := by decide +kernel
theorem q_s3a (zA : Nat → Nat → Nat → Int32) (j : Nat) (zI : Nat → Nat → Int32) (zL : Nat → Nat → Int64) (c : Nat) : ∀ t, t ≤ 4 → ∀ i, 4 ≤ i + t → i < 4 → v_Si_scheduleV_L3 zA j (zL 4 c) (zL 5 c) t j 11 i = v_Mo_prepare3V_L219 zI zL c t 15 i := by
  intro t
  induction t with
  | zero => intro _ i h1 h2; omega
  | succ t ih =>
    intro ht i h1 h2
    rw [v_Si_scheduleV_L3_s, v_Mo_prepare3V_L219_s]
    exact az_qw (q_kq zL c (nI t)) (fun hc => ih (by omega) i (by omega) h2)
theorem q_s3b (zA : Nat → Nat → Nat → Int32) (j : Nat) (zI : Nat → Nat → Int32) (zL : Nat → Nat → Int64) (c : Nat) : ∀ t, t ≤ 40 → ∀ i, i < 4 + t → v_Si_scheduleV_L34 zA j (zL 4 c) (zL 5 c) t j 11 i = v_Mo_prepare3V_L246 zI zL c t 15 i := by
  intro t
  induction t with
  | zero =>
    intro _ i hi
    rw [v_Si_scheduleV_L34_z, v_Mo_prepare3V_L246_z]
    exact q_s3a zA j zI zL c 4 (by omega) i (by omega) (by omega)
  | succ t ih =>
    intro ht i hi
    have h4 := ih (by omega) (4 + t - 4) (by omega)
    have h1 := ih (by omega) (4 + t - 1) (by omega)
    have h3 := ih (by omega) (4 + t - 3) (by omega)
    rw [v_Si_scheduleV_L34_s, v_Mo_prepare3V_L246_s]
    refine az_qw ?_ (fun hc => ih (by omega) i (by omega))
    rw [h4, h1, h3, q_bit (4 + t - 4) (by omega)]
    simp only [q_back]
theorem q_s2 (zA : Nat → Nat → Nat → Int32) (j : Nat) (zI : Nat → Nat → Int32) (zL : Nat → Nat → Int64) (c : Nat) : ∀ t, t ≤ 26 → (∀ i, i ≤ t → v_Sp_scheduleV_L46 zA j (zL 4 c) (zL 5 c) t j 8 i = v_Mo_prepare2V_L141 zI zL c t 15 i) ∧ (∀ m, t ≤ m → m < t + 3 → v_Sp_scheduleV_L46 zA j (zL 4 c) (zL 5 c) t j 9 (m % 3) = v_Mo_prepare2V_L141 zI zL c t 16 m) := by
  intro t
  induction t with
  | zero =>
    intro _
    rw [v_Sp_scheduleV_L46_z, v_Mo_prepare2V_L141_z, show v_Sp_scheduleV_L3 zA j (zL 4 c) (zL 5 c) 3 = az_w (az_w (az_w zA j 9 2 (v_Ru_keyQuarterV (zL 4 c) (zL 5 c) (nI 0))) j 9 1 (v_Ru_keyQuarterV (zL 4 c) (zL 5 c) (nI 1))) j 9 0 (v_Ru_keyQuarterV (zL 4 c) (zL 5 c) (nI 2)) from rfl]
    refine ⟨fun i hi => ?_, fun m h1 h2 => ?_⟩
    · rw [show i = 0 by omega, az_w_s, az_v_s]
      exact q_kq zL c (nI 3)
    · rw [az_w_i (show 9 ≠ 8 by decide), az_v_i (show 16 ≠ 15 by decide)]
      rcases (by omega : m = 0 ∨ m = 1 ∨ m = 2) with rfl | rfl | rfl
      · rw [show 0 % 3 = 0 from rfl, az_w_s, az_v_s]
        exact q_kq zL c (nI 2)
      · rw [show 1 % 3 = 1 from rfl, az_w_k (show 1 ≠ 0 by decide), az_w_s, az_v_k (show 1 ≠ 0 by decide), az_v_s]
        exact q_kq zL c (nI 1)
      · rw [show 2 % 3 = 2 from rfl, az_w_k (show 2 ≠ 0 by decide), az_w_k (show 2 ≠ 1 by decide), az_w_s, az_v_k (show 2 ≠ 0 by decide), az_v_k (show 2 ≠ 1 by decide), az_v_s]
        exact q_kq zL c (nI 0)
  | succ t ih =>
    intro ht
    obtain ⟨h1, h2⟩ := ih (by omega)
    rw [v_Sp_scheduleV_L46_s, v_Mo_prepare2V_L141_s]
    generalize v_Sp_scheduleV_L46 zA j (zL 4 c) (zL 5 c) t = A at h1 h2 ⊢
    generalize v_Mo_prepare2V_L141 zI zL c t = I at h1 h2 ⊢
    have hm : ((A j 8 t) + (v_Ru_turnRightV (A j 9 (t % 3)) (nI 8))) ^^^ (nI t) = ((I 15 t) + (v_Mo_backV (I 16 t) (nI 8))) ^^^ (nI t) := by
      rw [h1 t (Nat.le_refl t), h2 t (Nat.le_refl t) (by omega), q_back]
    refine ⟨fun i hi => ?_, fun m h3 h4 => ?_⟩
    · refine az_qw ?_ (fun hc => ?_)
      · rw [az_w_i (show 8 ≠ 9 by decide), az_v_i (show 15 ≠ 16 by decide), az_v_s, hm, h1 t (Nat.le_refl t), q_turn]
      · rw [az_w_i (show 8 ≠ 9 by decide), az_v_i (show 15 ≠ 16 by decide)]
        exact h1 i (by omega)
    · rw [az_w_i (show 9 ≠ 8 by decide), az_v_i (show 16 ≠ 15 by decide)]
      by_cases h5 : m = t + 3
      · rw [h5, show (t + 3) % 3 = t % 3 by omega, az_w_s, az_v_s]
        exact hm
      · rw [az_w_k (show m % 3 ≠ t % 3 by omega), az_v_k h5]
        exact h2 m (by omega) (by omega)
theorem q_s0a (zA : Nat → Nat → Nat → Int32) (j : Nat) (zI : Nat → Nat → Int32) (zL : Nat → Nat → Int64) (c : Nat) : ∀ t i, i < t → v_Rc_scheduleV_L3 zA j (zL 4 c) (zL 5 c) t j 4 i = v_Mo_prepareZeroV_L47 zI zL c t 16 i := by
  intro t
  induction t with
  | zero => intro i hi; omega
  | succ t ih =>
    intro i hi
    rw [v_Rc_scheduleV_L3_s, v_Mo_prepareZeroV_L47_s]
    exact az_qw (by rw [q_sw, q_kq zL c (nI t)]) (fun hc => ih i (by omega))
theorem q_s0b (zA : Nat → Nat → Nat → Int32) (j : Nat) (zI : Nat → Nat → Int32) (zL : Nat → Nat → Int64) (c : Nat) (a b : Int64) : ∀ t i, i ≤ t → v_Rc_scheduleV_L43 zA j a b t j 3 i = v_Mo_prepareZeroV_L16 zI zL c t 15 i := by
  intro t
  induction t with
  | zero =>
    intro i hi
    rw [v_Rc_scheduleV_L43_z, v_Mo_prepareZeroV_L16_z, show i = 0 by omega, az_w_s, az_v_s]
  | succ t ih =>
    intro i hi
    have h1 := ih (1 + t - 1) (by omega)
    rw [v_Rc_scheduleV_L43_s, v_Mo_prepareZeroV_L16_s]
    exact az_qw (by rw [h1]) (fun hc => ih i (by omega))
theorem q_s0c (zA : Nat → Nat → Nat → Int32) (j : Nat) (a b : Int64) : ∀ t, v_Rc_scheduleV_L43 zA j a b t j 4 = v_Rc_scheduleV_L3 zA j a b 4 j 4 := by
  intro t
  induction t with
  | zero => rw [v_Rc_scheduleV_L43_z, az_w_i (show 4 ≠ 3 by decide)]
  | succ t ih => rw [v_Rc_scheduleV_L43_s, az_w_i (show 4 ≠ 3 by decide), ih]
theorem q_s0d (zI : Nat → Nat → Int32) (zL : Nat → Nat → Int64) (c : Nat) : ∀ t, v_Mo_prepareZeroV_L47 zI zL c t 15 = v_Mo_prepareZeroV_L16 zI zL c 25 15 := by
  intro t
  induction t with
  | zero => rw [v_Mo_prepareZeroV_L47_z]
  | succ t ih => rw [v_Mo_prepareZeroV_L47_s, az_v_i (show 15 ≠ 16 by decide), ih]
theorem q_s0m (zA : Nat → Nat → Nat → Int32) (j : Nat) (zI : Nat → Nat → Int32) (zL : Nat → Nat → Int64) (c : Nat) : ∀ t, (v_Rc_mixKeyIntoWordsV_L6 (v_Rc_scheduleV_L43 zA j (zL 4 c) (zL 5 c) 25) j t).1 = (v_Mo_prepareZeroV_L80 zI zL c t).1 ∧ (v_Rc_mixKeyIntoWordsV_L6 (v_Rc_scheduleV_L43 zA j (zL 4 c) (zL 5 c) 25) j t).2.1 = (v_Mo_prepareZeroV_L80 zI zL c t).2.1 ∧ (∀ i, i < 26 → (v_Rc_mixKeyIntoWordsV_L6 (v_Rc_scheduleV_L43 zA j (zL 4 c) (zL 5 c) 25) j t).2.2 j 3 i = (v_Mo_prepareZeroV_L80 zI zL c t).2.2 15 i) ∧ (∀ i, i < 4 → (v_Rc_mixKeyIntoWordsV_L6 (v_Rc_scheduleV_L43 zA j (zL 4 c) (zL 5 c) 25) j t).2.2 j 4 i = (v_Mo_prepareZeroV_L80 zI zL c t).2.2 16 i) := by
  intro t
  induction t with
  | zero =>
    rw [v_Rc_mixKeyIntoWordsV_L6_z, v_Mo_prepareZeroV_L80_z]
    refine ⟨rfl, rfl, fun i hi => ?_, fun i hi => ?_⟩
    · show v_Rc_scheduleV_L43 zA j (zL 4 c) (zL 5 c) 25 j 3 i = v_Mo_prepareZeroV_L47 zI zL c 4 15 i
      rw [q_s0d]
      exact q_s0b zA j zI zL c _ _ 25 i (by omega)
    · show v_Rc_scheduleV_L43 zA j (zL 4 c) (zL 5 c) 25 j 4 i = v_Mo_prepareZeroV_L47 zI zL c 4 16 i
      rw [q_s0c]
      exact q_s0a zA j zI zL c 4 i hi
  | succ t ih =>
    rw [v_Rc_mixKeyIntoWordsV_L6_s, v_Mo_prepareZeroV_L80_s]
    generalize v_Rc_mixKeyIntoWordsV_L6 (v_Rc_scheduleV_L43 zA j (zL 4 c) (zL 5 c) 25) j t = s at ih ⊢
    generalize v_Mo_prepareZeroV_L80 zI zL c t = r at ih ⊢
    obtain ⟨x, y, A⟩ := s
    obtain ⟨x', y', I⟩ := r
    obtain ⟨h1, h2, h3, h4⟩ := ih
    dsimp only at h1 h2 h3 h4 ⊢
    subst h1 h2
    have e3 := h3 (t % 26) (Nat.mod_lt _ (by decide))
    have e4 := h4 (t % 4) (Nat.mod_lt _ (by decide))
    rw [e3, q_turn, q_turn]
    generalize v_Mo_turnV (I 15 (t % 26) + x + y) (nI 3) = X
    rw [az_v_s, az_v_s, az_w_i (show 4 ≠ 3 by decide), az_v_i (show 16 ≠ 15 by decide), e4]
    generalize v_Mo_turnV (I 16 (t % 4) + X + y) (X + y) = Y
    refine ⟨rfl, rfl, fun i hi => ?_, fun i hi => ?_⟩
    · rw [az_w_i (show 3 ≠ 4 by decide), az_v_i (show 15 ≠ 16 by decide)]
      exact az_qw rfl (fun _ => h3 i hi)
    · exact az_qw rfl (fun _ => by rw [az_w_i (show 4 ≠ 3 by decide), az_v_i (show 16 ≠ 15 by decide)]; exact h4 i hi)
theorem q_idw (x : Int64) (t : Nat) : v_Id_quarterOfV x (nI (t % 8 % 4)) = (Int64.toInt32 (jL_ushr x (nI (48 - 16 * (t % 4))))) &&& 65535 := by
  unfold v_Id_quarterOfV
  rw [show t % 8 % 4 = t % 4 by omega, pk_mul, pk_sub (a := 48) (b := 16 * (t % 4)) (by omega)]
theorem q_le {a b : Nat} (ha : a < 2 ^ 31) (hb : b < 2 ^ 31) (h : ¬ a ≤ b) : ¬ nI a ≤ nI b := fun z => h ((nI_leI ha hb).mp z)
theorem q_ne {a b : Nat} (ha : a < 2 ^ 31) (hb : b < 2 ^ 31) (h : ¬ a = b) : ¬ nI a = nI b := fun z => h ((nI_eq ha hb).mp z)
theorem q_s4 (zA : Nat → Nat → Nat → Int32) (j : Nat) (zI : Nat → Nat → Int32) (zL : Nat → Nat → Int64) (c : Nat) : ∀ t, t ≤ 52 →
    ((0 < t ∧ t % 8 = 0) → (v_Id_scheduleV_L9 zA j (zL 4 c) (zL 5 c) t).1 = ((jL_shl (v_Mo_prepareFourV_L18 zI zL c t).1 (nI 25)) ||| (jL_ushr (v_Mo_prepareFourV_L18 zI zL c t).2.1 (nI 39))) ∧ (v_Id_scheduleV_L9 zA j (zL 4 c) (zL 5 c) t).2.1 = ((jL_shl (v_Mo_prepareFourV_L18 zI zL c t).2.1 (nI 25)) ||| (jL_ushr (v_Mo_prepareFourV_L18 zI zL c t).1 (nI 39)))) ∧
    (¬ (0 < t ∧ t % 8 = 0) → (v_Id_scheduleV_L9 zA j (zL 4 c) (zL 5 c) t).1 = (v_Mo_prepareFourV_L18 zI zL c t).1 ∧ (v_Id_scheduleV_L9 zA j (zL 4 c) (zL 5 c) t).2.1 = (v_Mo_prepareFourV_L18 zI zL c t).2.1) ∧
    (∀ i, i < t → (v_Id_scheduleV_L9 zA j (zL 4 c) (zL 5 c) t).2.2 j 13 i = (v_Mo_prepareFourV_L18 zI zL c t).2.2 15 i) := by
  intro t
  induction t with
  | zero => exact fun _ => ⟨fun h => by omega, fun _ => ⟨rfl, rfl⟩, fun i hi => by omega⟩
  | succ t ih =>
    intro ht
    obtain ⟨h1, h2, h3⟩ := ih (by omega)
    rw [v_Id_scheduleV_L9_s, v_Mo_prepareFourV_L18_s]
    generalize v_Id_scheduleV_L9 zA j (zL 4 c) (zL 5 c) t = s at h1 h2 h3 ⊢
    generalize v_Mo_prepareFourV_L18 zI zL c t = r at h1 h2 h3 ⊢
    obtain ⟨hi, lo, A⟩ := s
    obtain ⟨hi', lo', I⟩ := r
    dsimp only at h1 h2 h3 ⊢
    have wr : ∀ x y : Int32, x = y → ∀ i, i < t + 1 → az_w A j 13 t x j 13 i = az_v I 15 t y 15 i := fun x y hxy i hi => az_qw hxy (fun hc => h3 i (by omega))
    by_cases hA : 0 < t ∧ t % 8 = 0
    · obtain ⟨e1, e2⟩ := h1 hA
      rw [if_neg (q_le (by decide) (by omega) (by omega) : ¬ nI 4 ≤ nI (t % 8)), if_neg (show ¬ nI t ≤ 0 from q_le (b := 0) (by omega) (by decide) (by omega)), if_pos (show nI (t % 8) = 0 by rw [hA.2]; rfl)]
      dsimp only
      exact ⟨fun h => by omega, fun _ => ⟨e1, e2⟩, wr _ _ (by rw [q_idw, e1])⟩
    · obtain ⟨e1, e2⟩ := h2 hA
      subst e1 e2
      by_cases h0 : t = 0
      · rw [if_neg (q_le (by decide) (by omega) (by omega) : ¬ nI 4 ≤ nI (t % 8)), if_pos (show nI t ≤ 0 by rw [h0]; decide), if_neg (q_le (by decide) (by omega) (by omega) : ¬ nI 4 ≤ nI (t % 8))]
        dsimp only
        exact ⟨fun h => by omega, fun _ => ⟨rfl, rfl⟩, wr _ _ (q_idw _ _)⟩
      · rw [if_neg (show ¬ nI t ≤ 0 from q_le (b := 0) (by omega) (by decide) (by omega)), if_neg (show ¬ nI (t % 8) = 0 from q_ne (b := 0) (by omega) (by decide) (by omega))]
        by_cases h4 : 4 ≤ t % 8
        · have h4' : nI 4 ≤ nI (t % 8) := (nI_leI (by decide) (by omega)).mpr h4
          rw [if_pos h4', if_pos h4']
          by_cases h7 : t % 8 = 7
          · rw [if_pos (show nI (t % 8) = nI 7 by rw [h7])]
            dsimp only
            exact ⟨fun _ => ⟨rfl, rfl⟩, fun h => absurd (show 0 < t + 1 ∧ (t + 1) % 8 = 0 by omega) h, wr _ _ (q_idw _ _)⟩
          · rw [if_neg (q_ne (by omega) (by decide) h7)]
            dsimp only
            exact ⟨fun h => by omega, fun _ => ⟨rfl, rfl⟩, wr _ _ (q_idw _ _)⟩
        · have h4' : ¬ nI 4 ≤ nI (t % 8) := q_le (by decide) (by omega) h4
          rw [if_neg h4', if_neg h4']
          dsimp only
          exact ⟨fun h => by omega, fun _ => ⟨rfl, rfl⟩, wr _ _ (q_idw _ _)⟩
theorem q_s4b (zA : Nat → Nat → Nat → Int32) (j : Nat) (a b : Int64) : ∀ t, v_Id_scheduleV_L96 zA j a b t j 13 = (v_Id_scheduleV_L9 zA j a b 52).2.2 j 13 := by
  intro t
  induction t with
  | zero => rw [v_Id_scheduleV_L96_z]
  | succ t ih => rw [v_Id_scheduleV_L96_s, az_w_i (show 13 ≠ 14 by decide), az_w_i (show 13 ≠ 14 by decide), az_w_i (show 13 ≠ 14 by decide), az_w_i (show 13 ≠ 14 by decide), ih]
/-- the words' cell of a cipher -/
def az_wc (kc : Nat) : Nat := if kc = 0 then 3 else if kc = 1 then 6 else if kc = 2 then 8 else if kc = 3 then 11 else 13
/-- the class's words are the reference's, whatever stood there before -/
theorem q_sch (zA : Nat → Nat → Nat → Int32) (j : Nat) (zI : Nat → Nat → Int32) (zL : Nat → Nat → Int64) (c kc : Nat) (hkc : kc < 5) (i : Nat) (hi : i < az_wn kc) : v_Ci_scheduleV_zA zA j (az_cn kc) (zL 4 c) (zL 5 c) j (az_wc kc) i = v_Mo_prepareJV_zI zI zL c kc 15 i := by
  rcases (by omega : kc = 0 ∨ kc = 1 ∨ kc = 2 ∨ kc = 3 ∨ kc = 4) with rfl | rfl | rfl | rfl | rfl
  · rw [v_Mo_prepareJV_zI_0, show az_cn 0 = 2 from rfl, v_Ci_scheduleV_zA_2]
    exact (q_s0m zA j zI zL c 78).2.2.1 i hi
  · rw [v_Mo_prepareJV_zI_1, show az_cn 1 = 5 from rfl, v_Ci_scheduleV_zA_5]
    exact q_s1 zA j zI zL c 4 i hi
  · rw [v_Mo_prepareJV_zI_2, show az_cn 2 = 7 from rfl, v_Ci_scheduleV_zA_7]
    have hi : i < 27 := hi
    exact (q_s2 zA j zI zL c 26 (by omega)).1 i (by omega)
  · rw [v_Mo_prepareJV_zI_3, show az_cn 3 = 10 from rfl, v_Ci_scheduleV_zA_10]
    have hi : i < 44 := hi
    exact q_s3b zA j zI zL c 40 (by omega) i (by omega)
  · rw [v_Mo_prepareJV_zI_4, show az_cn 4 = 12 from rfl, v_Ci_scheduleV_zA_12]
    have hi : i < 52 := hi
    show v_Id_scheduleV_L96 zA j (zL 4 c) (zL 5 c) 9 j 13 i = (v_Mo_prepareFourV_L18 zI zL c 52).2.2 15 i
    rw [q_s4b]
    exact (q_s4 zA j zI zL c 52 (Nat.le_refl _)).2.2 i hi
noncomputable def az_sch (kc : Nat) (a b : Int64) : Nat → Int32 := v_Mo_prepareJV_zI (fun _ _ => 0) (fun q _ => if q = 4 then a else b) 0 kc 15
theorem q_schA (zA : Nat → Nat → Nat → Int32) (j kc : Nat) (a b : Int64) (hkc : kc < 5) (i : Nat) (hi : i < az_wn kc) : v_Ci_scheduleV_zA zA j (az_cn kc) a b j (az_wc kc) i = az_sch kc a b i := q_sch zA j (fun _ _ => 0) (fun q _ => if q = 4 then a else b) 0 kc hkc i hi
theorem q_schM (zI : Nat → Nat → Int32) (zL : Nat → Nat → Int64) (c kc : Nat) (hkc : kc < 5) (i : Nat) (hi : i < az_wn kc) : v_Mo_prepareJV_zI zI zL c kc 15 i = az_sch kc (zL 4 c) (zL 5 c) i := by
  rw [← q_sch (fun _ _ _ => 0) 0 zI zL c kc hkc i hi]
  exact q_schA _ 0 kc _ _ hkc i hi
