/-! What the schedules, preparing, feed, take and tag leave alone. -/
theorem fr_Rc_scheduleV_L3 (zA : Nat → Nat → Nat → Int32) (j : Nat) (a b : Int64) {q : Nat} (h : q ≠ j) : ∀ t, v_Rc_scheduleV_L3 zA j a b t q = zA q := by
  intro t
  induction t with
  | zero => rfl
  | succ t ih => rw [v_Rc_scheduleV_L3_s, az_w_j h, ih]
theorem fr_Rc_scheduleV_L43 (zA : Nat → Nat → Nat → Int32) (j : Nat) (a b : Int64) {q : Nat} (h : q ≠ j) : ∀ t, v_Rc_scheduleV_L43 zA j a b t q = zA q := by
  intro t
  induction t with
  | zero => rw [v_Rc_scheduleV_L43_z, az_w_j h]; exact fr_Rc_scheduleV_L3 zA j a b h 4
  | succ t ih => rw [v_Rc_scheduleV_L43_s, az_w_j h, ih]
theorem fr_Rc_mix (zA : Nat → Nat → Nat → Int32) (j : Nat) {q : Nat} (h : q ≠ j) : ∀ t, (v_Rc_mixKeyIntoWordsV_L6 zA j t).2.2 q = zA q := by
  intro t
  induction t with
  | zero => rfl
  | succ t ih =>
    rw [v_Rc_mixKeyIntoWordsV_L6_s]
    dsimp only
    rw [az_w_j h, az_w_j h, ih]
theorem fr_Xt_scheduleV_L3 (zA : Nat → Nat → Nat → Int32) (j : Nat) (a b : Int64) {q : Nat} (h : q ≠ j) : ∀ t, v_Xt_scheduleV_L3 zA j a b t q = zA q := by
  intro t
  induction t with
  | zero => rfl
  | succ t ih => rw [v_Xt_scheduleV_L3_s, az_w_j h, ih]
theorem fr_Sp_scheduleV_L3 (zA : Nat → Nat → Nat → Int32) (j : Nat) (a b : Int64) {q : Nat} (h : q ≠ j) : ∀ t, v_Sp_scheduleV_L3 zA j a b t q = zA q := by
  intro t
  induction t with
  | zero => rfl
  | succ t ih => rw [v_Sp_scheduleV_L3_s, az_w_j h, ih]
theorem fr_Sp_scheduleV_L46 (zA : Nat → Nat → Nat → Int32) (j : Nat) (a b : Int64) {q : Nat} (h : q ≠ j) : ∀ t, v_Sp_scheduleV_L46 zA j a b t q = zA q := by
  intro t
  induction t with
  | zero => rw [v_Sp_scheduleV_L46_z, az_w_j h]; exact fr_Sp_scheduleV_L3 zA j a b h 3
  | succ t ih => rw [v_Sp_scheduleV_L46_s, az_w_j h, az_w_j h, ih]
theorem fr_Si_scheduleV_L3 (zA : Nat → Nat → Nat → Int32) (j : Nat) (a b : Int64) {q : Nat} (h : q ≠ j) : ∀ t, v_Si_scheduleV_L3 zA j a b t q = zA q := by
  intro t
  induction t with
  | zero => rfl
  | succ t ih => rw [v_Si_scheduleV_L3_s, az_w_j h, ih]
theorem fr_Si_scheduleV_L34 (zA : Nat → Nat → Nat → Int32) (j : Nat) (a b : Int64) {q : Nat} (h : q ≠ j) : ∀ t, v_Si_scheduleV_L34 zA j a b t q = zA q := by
  intro t
  induction t with
  | zero => exact fr_Si_scheduleV_L3 zA j a b h 4
  | succ t ih => rw [v_Si_scheduleV_L34_s, az_w_j h, ih]
theorem fr_Id_scheduleV_L9 (zA : Nat → Nat → Nat → Int32) (j : Nat) (a b : Int64) {q : Nat} (h : q ≠ j) : ∀ t, (v_Id_scheduleV_L9 zA j a b t).2.2 q = zA q := by
  intro t
  induction t with
  | zero => rfl
  | succ t ih =>
    rw [v_Id_scheduleV_L9_s]
    split
    · split
      · dsimp only
        rw [az_w_j h, ih]
      · dsimp only
        rw [az_w_j h, ih]
    · dsimp only
      rw [az_w_j h, ih]
theorem fr_Id_scheduleV_L96 (zA : Nat → Nat → Nat → Int32) (j : Nat) (a b : Int64) {q : Nat} (h : q ≠ j) : ∀ t, v_Id_scheduleV_L96 zA j a b t q = zA q := by
  intro t
  induction t with
  | zero => exact fr_Id_scheduleV_L9 zA j a b h 52
  | succ t ih => rw [v_Id_scheduleV_L96_s, az_w_j h, az_w_j h, az_w_j h, az_w_j h, ih]
theorem fr_sched (zA : Nat → Nat → Nat → Int32) (j o : Nat) (a b : Int64) {q : Nat} (h : q ≠ j) : v_Ci_scheduleV_zA zA j o a b q = zA q := by
  unfold v_Ci_scheduleV_zA
  split
  · exact (fr_Rc_mix _ j h 78).trans (fr_Rc_scheduleV_L43 zA j a b h 25)
  · split
    · exact fr_Xt_scheduleV_L3 zA j a b h 4
    · split
      · exact fr_Sp_scheduleV_L46 zA j a b h 26
      · split
        · exact fr_Si_scheduleV_L34 zA j a b h 40
        · exact fr_Id_scheduleV_L96 zA j a b h 9
theorem fr_Mo_prepareZeroV_L16 (zI : Nat → Nat → Int32) (zL : Nat → Nat → Int64) (j : Nat) {q : Nat} (h5 : q ≠ 15) (h6 : q ≠ 16) : ∀ t, v_Mo_prepareZeroV_L16 zI zL j t q = zI q := by
  intro t
  induction t with
  | zero => rw [v_Mo_prepareZeroV_L16_z, az_v_i h5]
  | succ t ih =>
    rw [v_Mo_prepareZeroV_L16_s]
    rw [az_v_i h5, ih]
theorem fr_Mo_prepareZeroV_L47 (zI : Nat → Nat → Int32) (zL : Nat → Nat → Int64) (j : Nat) {q : Nat} (h5 : q ≠ 15) (h6 : q ≠ 16) : ∀ t, v_Mo_prepareZeroV_L47 zI zL j t q = zI q := by
  intro t
  induction t with
  | zero => exact fr_Mo_prepareZeroV_L16 zI zL j h5 h6 25
  | succ t ih =>
    rw [v_Mo_prepareZeroV_L47_s]
    rw [az_v_i h6, ih]
theorem fr_Mo_prepareZeroV_L80 (zI : Nat → Nat → Int32) (zL : Nat → Nat → Int64) (j : Nat) {q : Nat} (h5 : q ≠ 15) (h6 : q ≠ 16) : ∀ t, (v_Mo_prepareZeroV_L80 zI zL j t).2.2 q = zI q := by
  intro t
  induction t with
  | zero => exact fr_Mo_prepareZeroV_L47 zI zL j h5 h6 4
  | succ t ih =>
    rw [v_Mo_prepareZeroV_L80_s]
    dsimp only
    rw [az_v_i h6, az_v_i h5, ih]
theorem fr_Mo_prepareFourV_L18 (zI : Nat → Nat → Int32) (zL : Nat → Nat → Int64) (j : Nat) {q : Nat} (h5 : q ≠ 15) (h6 : q ≠ 16) : ∀ t, (v_Mo_prepareFourV_L18 zI zL j t).2.2 q = zI q := by
  intro t
  induction t with
  | zero => rfl
  | succ t ih =>
    rw [v_Mo_prepareFourV_L18_s]
    repeat' split
    all_goals
      dsimp only
      rw [az_v_i h5, ih]
theorem fr_Mo_prepare1V_L59 (zI : Nat → Nat → Int32) (zL : Nat → Nat → Int64) (j : Nat) {q : Nat} (h5 : q ≠ 15) (h6 : q ≠ 16) : ∀ t, v_Mo_prepare1V_L59 zI zL j t q = zI q := by
  intro t
  induction t with
  | zero => rfl
  | succ t ih =>
    rw [v_Mo_prepare1V_L59_s]
    rw [az_v_i h5, ih]
theorem fr_Mo_prepare2V_L141 (zI : Nat → Nat → Int32) (zL : Nat → Nat → Int64) (j : Nat) {q : Nat} (h5 : q ≠ 15) (h6 : q ≠ 16) : ∀ t, v_Mo_prepare2V_L141 zI zL j t q = zI q := by
  intro t
  induction t with
  | zero => rw [v_Mo_prepare2V_L141_z, az_v_i h5, az_v_i h6, az_v_i h6, az_v_i h6]
  | succ t ih =>
    rw [v_Mo_prepare2V_L141_s]
    rw [az_v_i h5, az_v_i h6, ih]
theorem fr_Mo_prepare3V_L219 (zI : Nat → Nat → Int32) (zL : Nat → Nat → Int64) (j : Nat) {q : Nat} (h5 : q ≠ 15) (h6 : q ≠ 16) : ∀ t, v_Mo_prepare3V_L219 zI zL j t q = zI q := by
  intro t
  induction t with
  | zero => rfl
  | succ t ih =>
    rw [v_Mo_prepare3V_L219_s]
    rw [az_v_i h5, ih]
theorem fr_Mo_prepare3V_L246 (zI : Nat → Nat → Int32) (zL : Nat → Nat → Int64) (j : Nat) {q : Nat} (h5 : q ≠ 15) (h6 : q ≠ 16) : ∀ t, v_Mo_prepare3V_L246 zI zL j t q = zI q := by
  intro t
  induction t with
  | zero => exact fr_Mo_prepare3V_L219 zI zL j h5 h6 4
  | succ t ih =>
    rw [v_Mo_prepare3V_L246_s]
    rw [az_v_i h5, ih]
theorem fr_prep (zI : Nat → Nat → Int32) (zL : Nat → Nat → Int64) (j kc : Nat) {q : Nat} (h5 : q ≠ 15) (h6 : q ≠ 16) : v_Mo_prepareJV_zI zI zL j kc q = zI q := by
  unfold v_Mo_prepareJV_zI
  split
  · exact fr_Mo_prepareZeroV_L80 zI zL j h5 h6 78
  · split
    · exact fr_Mo_prepare1V_L59 zI zL j h5 h6 4
    · split
      · exact fr_Mo_prepare2V_L141 zI zL j h5 h6 26
      · split
        · exact fr_Mo_prepare3V_L246 zI zL j h5 h6 40
        · exact fr_Mo_prepareFourV_L18 zI zL j h5 h6 52
theorem fr_feedByteI (zM : Nat → Nat × Nat) (zI : Nat → Nat → Int32) (zL : Nat → Nat → Int64) (j kc : Nat) (bk : Int32) (k : Nat) {q : Nat} (h1 : q ≠ 1) (h9 : q ≠ 9) : v_Mo_feedByteV_zI zM zI zL j kc bk k q = zI q := by
  unfold v_Mo_feedByteV_zI
  repeat' split
  all_goals simp only [az_v_i h1, az_v_i h9]
theorem fr_feedByteL (zM : Nat → Nat × Nat) (zI : Nat → Nat → Int32) (zL : Nat → Nat → Int64) (j kc : Nat) (bk : Int32) (k : Nat) {q : Nat} (h8 : q ≠ 8) : v_Mo_feedByteV_zL zM zI zL j kc bk k q = zL q := by
  unfold v_Mo_feedByteV_zL
  repeat' split
  all_goals simp only [az_vl_i h8]
theorem fr_putEight (zI : Nat → Nat → Int32) (k : Nat) (b : Int64) {q : Nat} (h1 : q ≠ 1) : ∀ t, v_Mo_putEightV_L3 zI k b t q = zI q := by
  intro t
  induction t with
  | zero => rfl
  | succ t ih => rw [v_Mo_putEightV_L3_s, az_v_i h1, ih]
theorem fr_feedBlockI (zM : Nat → Nat × Nat) (zI : Nat → Nat → Int32) (zL : Nat → Nat → Int64) (j kc : Nat) (bk : Int32) (k : Nat) {q : Nat} (h1 : q ≠ 1) : v_Mo_feedBlockV_zI zM zI zL j kc bk k q = zI q := by
  unfold v_Mo_feedBlockV_zI
  repeat' split
  all_goals exact fr_putEight zI k _ h1 8
theorem fr_feedBlockL (zM : Nat → Nat × Nat) (zI : Nat → Nat → Int32) (zL : Nat → Nat → Int64) (j kc : Nat) (bk : Int32) (k : Nat) {q : Nat} (h8 : q ≠ 8) : v_Mo_feedBlockV_zL zM zI zL j kc bk k q = zL q := by
  unfold v_Mo_feedBlockV_zL
  repeat' split
  all_goals simp only [az_vl_i h8]
theorem fr_feed1LI (zM : Nat → Nat × Nat) (zI : Nat → Nat → Int32) (zL : Nat → Nat → Int64) (j kc : Nat) (bk : Int32) (k : Nat) (mm : Nat) {q : Nat} (h1 : q ≠ 1) (h9 : q ≠ 9) (h5 : q ≠ 15) (h6 : q ≠ 16) : ∀ t, (v_Mo_feed1V_L96 zM zI zL j kc bk k mm t).1 q = zI q := by
  intro t
  induction t with
  | zero => exact fr_prep zI zL j kc h5 h6
  | succ t ih =>
    rw [v_Mo_feed1V_L96_s]
    dsimp only
    rw [fr_feedByteI _ _ _ _ _ _ _ h1 h9, ih]
theorem fr_feed1LL (zM : Nat → Nat × Nat) (zI : Nat → Nat → Int32) (zL : Nat → Nat → Int64) (j kc : Nat) (bk : Int32) (k : Nat) (mm : Nat) {q : Nat} (h8 : q ≠ 8) : ∀ t, (v_Mo_feed1V_L96 zM zI zL j kc bk k mm t).2 q = zL q := by
  intro t
  induction t with
  | zero => rfl
  | succ t ih =>
    rw [v_Mo_feed1V_L96_s]
    dsimp only
    rw [fr_feedByteL _ _ _ _ _ _ _ h8, ih]
theorem fr_feed8LI (zM : Nat → Nat × Nat) (zI : Nat → Nat → Int32) (zL : Nat → Nat → Int64) (j kc : Nat) (bk : Int32) (k : Nat) (mm : Nat) {q : Nat} (h1 : q ≠ 1) (h9 : q ≠ 9) (h5 : q ≠ 15) (h6 : q ≠ 16) : ∀ t, (v_Mo_feed8V_L96 zM zI zL j kc bk k mm t).1 q = zI q := by
  intro t
  induction t with
  | zero => exact fr_prep zI zL j kc h5 h6
  | succ t ih =>
    rw [v_Mo_feed8V_L96_s]
    split
    · dsimp only
      rw [fr_feedBlockI _ _ _ _ _ _ _ h1, ih]
    · exact ih
theorem fr_feed8LL (zM : Nat → Nat × Nat) (zI : Nat → Nat → Int32) (zL : Nat → Nat → Int64) (j kc : Nat) (bk : Int32) (k : Nat) (mm : Nat) {q : Nat} (h8 : q ≠ 8) : ∀ t, (v_Mo_feed8V_L96 zM zI zL j kc bk k mm t).2 q = zL q := by
  intro t
  induction t with
  | zero => rfl
  | succ t ih =>
    rw [v_Mo_feed8V_L96_s]
    split
    · dsimp only
      rw [fr_feedBlockL _ _ _ _ _ _ _ h8, ih]
    · exact ih
theorem fr_take1LI (zI : Nat → Nat → Int32) (zL : Nat → Nat → Int64) (j kc k mm : Nat) {q : Nat} (h4 : q ≠ 14) (h5 : q ≠ 15) (h6 : q ≠ 16) : ∀ t, (v_Mo_take1V_L53 zI zL j kc k mm t).1 q = zI q := by
  intro t
  induction t with
  | zero => exact fr_prep zI zL j kc h5 h6
  | succ t ih =>
    rw [v_Mo_take1V_L53_s]
    split
    · dsimp only
      rw [az_v_i h4, az_v_i h4, ih]
    · dsimp only
      rw [az_v_i h4, ih]
theorem fr_take1LL (zI : Nat → Nat → Int32) (zL : Nat → Nat → Int64) (j kc k mm : Nat) {q : Nat} (h2 : q ≠ 12) (h3 : q ≠ 13) : ∀ t, (v_Mo_take1V_L53 zI zL j kc k mm t).2 q = zL q := by
  intro t
  induction t with
  | zero => rfl
  | succ t ih =>
    rw [v_Mo_take1V_L53_s]
    split
    · dsimp only
      rw [az_vl_i h3, az_vl_i h3, az_vl_i h2, ih]
    · dsimp only
      rw [az_vl_i h3, ih]
