/-! The ciphers of the class and of the reference, their words being the same. -/
theorem q_on0 {zA : Nat → Nat → Nat → Int32} {zI : Nat → Nat → Int32} {j : Nat} (b : Int64) (h : ∀ i, i < 26 → zA j 3 i = zI 15 i) : v_Rc_onV zA j b = v_Mo_on0V zI b := by
  have hl : ∀ t, t ≤ 12 → v_Rc_onV_L34 zA j b t = v_Mo_on0V_L77 zI b t := by
    intro t
    induction t with
    | zero => intro _; rw [v_Rc_onV_L34_z, v_Mo_on0V_L77_z, h 0 (by omega), h 1 (by omega)]; rfl
    | succ t ih => intro ht; rw [v_Rc_onV_L34_s, v_Mo_on0V_L77_s, ih (by omega)]; simp only [q_turn, h (2 * (1 + t)) (by omega), h (2 * (1 + t) + 1) (by omega)]
  unfold v_Rc_onV v_Mo_on0V
  rw [hl 12 (by omega)]
  rfl
theorem q_off0 {zA : Nat → Nat → Nat → Int32} {zI : Nat → Nat → Int32} {j : Nat} (b : Int64) (h : ∀ i, i < 26 → zA j 3 i = zI 15 i) : v_Rc_backV zA j b = v_Mo_off0V zI b := by
  have hl : ∀ t, t ≤ 12 → v_Rc_backV_L21 zA j b t = v_Mo_off0V_L64 zI b t := by
    intro t
    induction t with
    | zero => intro _; rfl
    | succ t ih => intro ht; rw [v_Rc_backV_L21_s, v_Mo_off0V_L64_s, ih (by omega)]; simp only [q_back, h (2 * (12 - t)) (by omega), h (2 * (12 - t) + 1) (by omega)]
  unfold v_Rc_backV v_Mo_off0V
  rw [hl 12 (by omega), h 0 (by omega), h 1 (by omega)]
  rfl
theorem q_m3 (x : Int32) : (x &&& nI 3).toNatClampNeg < 4 := by
  obtain ⟨k, hk, e⟩ := pk_andE x (m := nI 3) 2 (by decide +kernel)
  rw [e, nI_clamp (by omega)]
  exact hk
theorem q_sQ (x : Int32) : x - 1640531527 = x + (-1640531527) := Int32.sub_eq_add_neg x 1640531527
theorem q_aQ (x : Int32) : x - (-1640531527) = x + 1640531527 := by
  rw [Int32.sub_eq_add_neg, Int32.neg_neg]
theorem q_on1 {zA : Nat → Nat → Nat → Int32} {zI : Nat → Nat → Int32} {j : Nat} (b : Int64) (h : ∀ i, i < 4 → zA j 6 i = zI 15 i) : v_Xt_onV zA j b = v_Mo_on1V zI b := by
  have hl : ∀ t, t ≤ 32 → v_Xt_onV_L17 zA j b t = v_Mo_on1V_L148 zI b t := by
    intro t
    induction t with
    | zero => intro _; rfl
    | succ t ih => intro ht; rw [v_Xt_onV_L17_s, v_Mo_on1V_L148_s, ih (by omega)]; simp only [v_Xt_stirredV, q_sQ, h _ (q_m3 _)]
  unfold v_Xt_onV v_Mo_on1V
  rw [hl 32 (by omega)]
  rfl
theorem q_off1 {zA : Nat → Nat → Nat → Int32} {zI : Nat → Nat → Int32} {j : Nat} (b : Int64) (h : ∀ i, i < 4 → zA j 6 i = zI 15 i) : v_Xt_backV zA j b = v_Mo_off1V zI b := by
  have hl : ∀ t, t ≤ 32 → v_Xt_backV_L18 zA j b t = v_Mo_off1V_L147 zI b t := by
    intro t
    induction t with
    | zero => intro _; rfl
    | succ t ih => intro ht; rw [v_Xt_backV_L18_s, v_Mo_off1V_L147_s, ih (by omega)]; simp only [v_Xt_stirredV, q_aQ, h _ (q_m3 _)]
  unfold v_Xt_backV v_Mo_off1V
  rw [hl 32 (by omega)]
  rfl
theorem q_on2 {zA : Nat → Nat → Nat → Int32} {zI : Nat → Nat → Int32} {j : Nat} (b : Int64) (h : ∀ i, i < 27 → zA j 8 i = zI 15 i) : v_Sp_onV zA j b = v_Mo_on2V zI b := by
  have hl : ∀ t, t ≤ 27 → v_Sp_onV_L14 zA j b t = v_Mo_on2V_L236 zI b t := by
    intro t
    induction t with
    | zero => intro _; rfl
    | succ t ih => intro ht; rw [v_Sp_onV_L14_s, v_Mo_on2V_L236_s, ih (by omega)]; simp only [q_turn, q_back, h t (by omega)]
  unfold v_Sp_onV v_Mo_on2V
  rw [hl 27 (by omega)]
  rfl
theorem q_off2 {zA : Nat → Nat → Nat → Int32} {zI : Nat → Nat → Int32} {j : Nat} (b : Int64) (h : ∀ i, i < 27 → zA j 8 i = zI 15 i) : v_Sp_backV zA j b = v_Mo_off2V zI b := by
  have hl : ∀ t, t ≤ 27 → v_Sp_backV_L15 zA j b t = v_Mo_off2V_L236 zI b t := by
    intro t
    induction t with
    | zero => intro _; rfl
    | succ t ih => intro ht; rw [v_Sp_backV_L15_s, v_Mo_off2V_L236_s, ih (by omega)]; simp only [q_turn, q_back, h (26 - t) (by omega)]
  unfold v_Sp_backV v_Mo_off2V
  rw [hl 27 (by omega)]
  rfl
theorem q_on3 {zA : Nat → Nat → Nat → Int32} {zI : Nat → Nat → Int32} {j : Nat} (b : Int64) (h : ∀ i, i < 44 → zA j 11 i = zI 15 i) : v_Si_onV zA j b = v_Mo_on3V zI b := by
  have hl : ∀ t, t ≤ 44 → v_Si_onV_L14 zA j b t = v_Mo_on3V_L287 zI b t := by
    intro t
    induction t with
    | zero => intro _; rfl
    | succ t ih => intro ht; rw [v_Si_onV_L14_s, v_Mo_on3V_L287_s, ih (by omega)]; simp only [q_st, h t (by omega), Int32.xor_assoc]
  unfold v_Si_onV v_Mo_on3V
  rw [hl 44 (by omega)]
  rfl
theorem q_off3 {zA : Nat → Nat → Nat → Int32} {zI : Nat → Nat → Int32} {j : Nat} (b : Int64) (h : ∀ i, i < 44 → zA j 11 i = zI 15 i) : v_Si_backV zA j b = v_Mo_off3V zI b := by
  have hl : ∀ t, t ≤ 44 → v_Si_backV_L15 zA j b t = v_Mo_off3V_L286 zI b t := by
    intro t
    induction t with
    | zero => intro _; rfl
    | succ t ih => intro ht; rw [v_Si_backV_L15_s, v_Mo_off3V_L286_s, ih (by omega)]; simp only [q_st, h (43 - t) (by omega), Int32.xor_assoc]
  unfold v_Si_backV v_Mo_off3V
  rw [hl 44 (by omega)]
  rfl
