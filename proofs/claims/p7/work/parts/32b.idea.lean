/-! IDEA on and back. -/
theorem q_midP0 (x : Int64) : v_Mo_partV (v_Id_middleSwappedV x) (nI 0) = v_Mo_partV (x) (nI 0) := by
  rw [q_mid]
  exact ((q_pof _ _ _ _).1).trans (q_pm x (nI 0))
theorem q_midP1 (x : Int64) : v_Mo_partV (v_Id_middleSwappedV x) (nI 1) = v_Mo_partV (x) (nI 2) := by
  rw [q_mid]
  exact ((q_pof _ _ _ _).2.1).trans (q_pm x (nI 2))
theorem q_midP2 (x : Int64) : v_Mo_partV (v_Id_middleSwappedV x) (nI 2) = v_Mo_partV (x) (nI 1) := by
  rw [q_mid]
  exact ((q_pof _ _ _ _).2.2.1).trans (q_pm x (nI 1))
theorem q_midP3 (x : Int64) : v_Mo_partV (v_Id_middleSwappedV x) (nI 3) = v_Mo_partV (x) (nI 3) := by
  rw [q_mid]
  exact ((q_pof _ _ _ _).2.2.2).trans (q_pm x (nI 3))
theorem q_key13F (zA : Nat → Nat → Nat → Int32) (j k : Nat) (x : Int64) : v_Id_keyed13V zA j k x = v_Mo_fourV (v_Mo_timesV (v_Mo_partV (x) (nI 0)) (zA j 13 k)) ((v_Mo_partV (x) (nI 1)) + zA j 13 (k + 1)) ((v_Mo_partV (x) (nI 2)) + zA j 13 (k + 2)) (v_Mo_timesV (v_Mo_partV (x) (nI 3)) (zA j 13 (k + 3))) := by
  unfold v_Id_keyed13V
  rw [q_four, q_tm, q_tm]
  rfl
theorem q_key13P0 (zA : Nat → Nat → Nat → Int32) (j k : Nat) (x : Int64) : v_Mo_partV (v_Id_keyed13V zA j k x) (nI 0) = v_Mo_timesV (v_Mo_partV (x) (nI 0)) (zA j 13 k) := by
  rw [q_key13F]
  exact ((q_pof _ _ _ _).1).trans (q_tmm _ _)
theorem q_key13P1 (zA : Nat → Nat → Nat → Int32) (j k : Nat) (x : Int64) : v_Mo_partV (v_Id_keyed13V zA j k x) (nI 1) = ((v_Mo_partV (x) (nI 1)) + zA j 13 (k + 1)) &&& 65535 := by
  rw [q_key13F]
  exact (q_pof _ _ _ _).2.1
theorem q_key13P2 (zA : Nat → Nat → Nat → Int32) (j k : Nat) (x : Int64) : v_Mo_partV (v_Id_keyed13V zA j k x) (nI 2) = ((v_Mo_partV (x) (nI 2)) + zA j 13 (k + 2)) &&& 65535 := by
  rw [q_key13F]
  exact (q_pof _ _ _ _).2.2.1
theorem q_key13P3 (zA : Nat → Nat → Nat → Int32) (j k : Nat) (x : Int64) : v_Mo_partV (v_Id_keyed13V zA j k x) (nI 3) = v_Mo_timesV (v_Mo_partV (x) (nI 3)) (zA j 13 (k + 3)) := by
  rw [q_key13F]
  exact ((q_pof _ _ _ _).2.2.2).trans (q_tmm _ _)
theorem q_key14F (zA : Nat → Nat → Nat → Int32) (j k : Nat) (x : Int64) : v_Id_keyed14V zA j k x = v_Mo_fourV (v_Mo_timesV (v_Mo_partV (x) (nI 0)) (zA j 14 k)) ((v_Mo_partV (x) (nI 1)) + zA j 14 (k + 1)) ((v_Mo_partV (x) (nI 2)) + zA j 14 (k + 2)) (v_Mo_timesV (v_Mo_partV (x) (nI 3)) (zA j 14 (k + 3))) := by
  unfold v_Id_keyed14V
  rw [q_four, q_tm, q_tm]
  rfl
theorem q_key14P0 (zA : Nat → Nat → Nat → Int32) (j k : Nat) (x : Int64) : v_Mo_partV (v_Id_keyed14V zA j k x) (nI 0) = v_Mo_timesV (v_Mo_partV (x) (nI 0)) (zA j 14 k) := by
  rw [q_key14F]
  exact ((q_pof _ _ _ _).1).trans (q_tmm _ _)
theorem q_key14P1 (zA : Nat → Nat → Nat → Int32) (j k : Nat) (x : Int64) : v_Mo_partV (v_Id_keyed14V zA j k x) (nI 1) = ((v_Mo_partV (x) (nI 1)) + zA j 14 (k + 1)) &&& 65535 := by
  rw [q_key14F]
  exact (q_pof _ _ _ _).2.1
theorem q_key14P2 (zA : Nat → Nat → Nat → Int32) (j k : Nat) (x : Int64) : v_Mo_partV (v_Id_keyed14V zA j k x) (nI 2) = ((v_Mo_partV (x) (nI 2)) + zA j 14 (k + 2)) &&& 65535 := by
  rw [q_key14F]
  exact (q_pof _ _ _ _).2.2.1
theorem q_key14P3 (zA : Nat → Nat → Nat → Int32) (j k : Nat) (x : Int64) : v_Mo_partV (v_Id_keyed14V zA j k x) (nI 3) = v_Mo_timesV (v_Mo_partV (x) (nI 3)) (zA j 14 (k + 3)) := by
  rw [q_key14F]
  exact ((q_pof _ _ _ _).2.2.2).trans (q_tmm _ _)
theorem q_mixF (zA : Nat → Nat → Nat → Int32) (j k : Nat) (x : Int64) : v_Id_mixedV zA j k x = x ^^^ v_Mo_fourV (v_Mo_timesV (((v_Mo_timesV ((v_Mo_partV (x) (nI 0)) ^^^ (v_Mo_partV (x) (nI 2))) (zA j 13 k)) + ((v_Mo_partV (x) (nI 1)) ^^^ (v_Mo_partV (x) (nI 3)))) &&& 65535) (zA j 13 (k + 1))) ((v_Mo_timesV ((v_Mo_partV (x) (nI 0)) ^^^ (v_Mo_partV (x) (nI 2))) (zA j 13 k)) + (v_Mo_timesV (((v_Mo_timesV ((v_Mo_partV (x) (nI 0)) ^^^ (v_Mo_partV (x) (nI 2))) (zA j 13 k)) + ((v_Mo_partV (x) (nI 1)) ^^^ (v_Mo_partV (x) (nI 3)))) &&& 65535) (zA j 13 (k + 1)))) (v_Mo_timesV (((v_Mo_timesV ((v_Mo_partV (x) (nI 0)) ^^^ (v_Mo_partV (x) (nI 2))) (zA j 13 k)) + ((v_Mo_partV (x) (nI 1)) ^^^ (v_Mo_partV (x) (nI 3)))) &&& 65535) (zA j 13 (k + 1))) ((v_Mo_timesV ((v_Mo_partV (x) (nI 0)) ^^^ (v_Mo_partV (x) (nI 2))) (zA j 13 k)) + (v_Mo_timesV (((v_Mo_timesV ((v_Mo_partV (x) (nI 0)) ^^^ (v_Mo_partV (x) (nI 2))) (zA j 13 k)) + ((v_Mo_partV (x) (nI 1)) ^^^ (v_Mo_partV (x) (nI 3)))) &&& 65535) (zA j 13 (k + 1)))) := by
  unfold v_Id_mixedV
  rw [q_four]
  simp only [q_tm]
  rfl
theorem q_mixP0 (zA : Nat → Nat → Nat → Int32) (j k : Nat) (x : Int64) : v_Mo_partV (v_Id_mixedV zA j k x) (nI 0) = (v_Mo_partV (x) (nI 0)) ^^^ (v_Mo_timesV (((v_Mo_timesV ((v_Mo_partV (x) (nI 0)) ^^^ (v_Mo_partV (x) (nI 2))) (zA j 13 k)) + ((v_Mo_partV (x) (nI 1)) ^^^ (v_Mo_partV (x) (nI 3)))) &&& 65535) (zA j 13 (k + 1))) := by
  rw [q_mixF, q_pxor _ _ 0 (by decide), (q_pof _ _ _ _).1, q_tmm]
theorem q_mixP1 (zA : Nat → Nat → Nat → Int32) (j k : Nat) (x : Int64) : v_Mo_partV (v_Id_mixedV zA j k x) (nI 1) = (v_Mo_partV (x) (nI 1)) ^^^ (((v_Mo_timesV ((v_Mo_partV (x) (nI 0)) ^^^ (v_Mo_partV (x) (nI 2))) (zA j 13 k)) + (v_Mo_timesV (((v_Mo_timesV ((v_Mo_partV (x) (nI 0)) ^^^ (v_Mo_partV (x) (nI 2))) (zA j 13 k)) + ((v_Mo_partV (x) (nI 1)) ^^^ (v_Mo_partV (x) (nI 3)))) &&& 65535) (zA j 13 (k + 1)))) &&& 65535) := by
  rw [q_mixF, q_pxor _ _ 1 (by decide), (q_pof _ _ _ _).2.1]
theorem q_mixP2 (zA : Nat → Nat → Nat → Int32) (j k : Nat) (x : Int64) : v_Mo_partV (v_Id_mixedV zA j k x) (nI 2) = (v_Mo_partV (x) (nI 2)) ^^^ (v_Mo_timesV (((v_Mo_timesV ((v_Mo_partV (x) (nI 0)) ^^^ (v_Mo_partV (x) (nI 2))) (zA j 13 k)) + ((v_Mo_partV (x) (nI 1)) ^^^ (v_Mo_partV (x) (nI 3)))) &&& 65535) (zA j 13 (k + 1))) := by
  rw [q_mixF, q_pxor _ _ 2 (by decide), (q_pof _ _ _ _).2.2.1, q_tmm]
theorem q_mixP3 (zA : Nat → Nat → Nat → Int32) (j k : Nat) (x : Int64) : v_Mo_partV (v_Id_mixedV zA j k x) (nI 3) = (v_Mo_partV (x) (nI 3)) ^^^ (((v_Mo_timesV ((v_Mo_partV (x) (nI 0)) ^^^ (v_Mo_partV (x) (nI 2))) (zA j 13 k)) + (v_Mo_timesV (((v_Mo_timesV ((v_Mo_partV (x) (nI 0)) ^^^ (v_Mo_partV (x) (nI 2))) (zA j 13 k)) + ((v_Mo_partV (x) (nI 1)) ^^^ (v_Mo_partV (x) (nI 3)))) &&& 65535) (zA j 13 (k + 1)))) &&& 65535) := by
  rw [q_mixF, q_pxor _ _ 3 (by decide), (q_pof _ _ _ _).2.2.2]
theorem q_fourm (x y z w : Int32) : v_Mo_fourV x (y &&& 65535) (z &&& 65535) w = v_Mo_fourV x y z w := by
  unfold v_Mo_fourV
  rw [q_mm, q_mm]
theorem q_on4 {zA : Nat → Nat → Nat → Int32} {zI : Nat → Nat → Int32} {j : Nat} (b : Int64) (h : ∀ i, i < 52 → zA j 13 i = zI 15 i) : v_Id_onV zA j b = v_Mo_on4V zI b := by
  have hl : ∀ t, t ≤ 8 → v_Mo_onFourV_L30 zI b t = (v_Mo_partV (v_Id_onV_L5 zA j b t) (nI 0), v_Mo_partV (v_Id_onV_L5 zA j b t) (nI 1), v_Mo_partV (v_Id_onV_L5 zA j b t) (nI 2), v_Mo_partV (v_Id_onV_L5 zA j b t) (nI 3)) := by
    intro t
    induction t with
    | zero => intro _; rfl
    | succ t ih =>
      intro ht
      rw [v_Mo_onFourV_L30_s, v_Id_onV_L5_s, ih (by omega)]
      generalize v_Id_onV_L5 zA j b t = s
      dsimp only
      simp only [q_midP0, q_midP1, q_midP2, q_midP3, q_mixP0, q_mixP1, q_mixP2, q_mixP3, q_key13P0, q_key13P1, q_key13P2, q_key13P3]
      rw [h (6 * t) (by omega), h (6 * t + 1) (by omega), h (6 * t + 2) (by omega), h (6 * t + 3) (by omega), h (6 * t + 4) (by omega), h (6 * t + 5) (by omega)]
  show v_Id_keyed13V zA j 48 (v_Id_middleSwappedV (v_Id_onV_L5 zA j b 8)) = v_Mo_onFourV zI b
  unfold v_Mo_onFourV
  rw [hl 8 (by omega), q_key13F]
  dsimp only
  unfold v_Mo_sumV
  rw [q_fourm]
  rw [q_midP0, q_midP1, q_midP2, q_midP3, h 48 (by omega), h 49 (by omega), h 50 (by omega), h 51 (by omega)]
theorem q_off4 {zA : Nat → Nat → Nat → Int32} {zI : Nat → Nat → Int32} {j : Nat} (b : Int64) (h : ∀ i, i < 52 → zA j 13 i = zI 15 i) (hu : ∀ u, u < 9 → zA j 14 (6 * u) = v_Mo_inverseV (zI 15 (6 * u)) ∧ zA j 14 (6 * u + 1) = (-(zI 15 (6 * u + 1))) &&& 65535 ∧ zA j 14 (6 * u + 2) = (-(zI 15 (6 * u + 2))) &&& 65535 ∧ zA j 14 (6 * u + 3) = v_Mo_inverseV (zI 15 (6 * u + 3))) : v_Id_backV zA j b = v_Mo_off4V zI b := by
  have hl : ∀ t, t ≤ 8 → v_Mo_offFourV_L79 zI b t = (v_Mo_partV (v_Id_backV_L18 zA j b t) (nI 0), v_Mo_partV (v_Id_backV_L18 zA j b t) (nI 1), v_Mo_partV (v_Id_backV_L18 zA j b t) (nI 2), v_Mo_partV (v_Id_backV_L18 zA j b t) (nI 3)) := by
    intro t
    induction t with
    | zero =>
      intro _
      have u := hu 8 (by decide)
      rw [v_Mo_offFourV_L79_z, v_Id_backV_L18_z]
      simp only [q_midP0, q_midP1, q_midP2, q_midP3, q_key14P0, q_key14P1, q_key14P2, q_key14P3]
      rw [show zA j 14 48 = v_Mo_inverseV (zI 15 48) from u.1, show zA j 14 (48 + 1) = (-(zI 15 49)) &&& 65535 from u.2.1, show zA j 14 (48 + 2) = (-(zI 15 50)) &&& 65535 from u.2.2.1, show zA j 14 (48 + 3) = v_Mo_inverseV (zI 15 51) from u.2.2.2, q_neg16, q_neg16]
    | succ t ih =>
      intro ht
      have u := hu (7 - t) (by omega)
      rw [v_Mo_offFourV_L79_s, v_Id_backV_L18_s, ih (by omega)]
      generalize v_Id_backV_L18 zA j b t = s
      dsimp only
      simp only [q_key14P0, q_key14P1, q_key14P2, q_key14P3, q_mixP0, q_mixP1, q_mixP2, q_mixP3, q_midP0, q_midP1, q_midP2, q_midP3]
      rw [u.1, u.2.1, u.2.2.1, u.2.2.2, q_neg16, q_neg16, h (6 * (7 - t) + 4) (by omega), h (6 * (7 - t) + 5) (by omega)]
  show v_Id_backV_L18 zA j b 8 = v_Mo_offFourV zI b
  unfold v_Mo_offFourV
  rw [hl 8 (by omega)]
  exact (q_parts _).symm
