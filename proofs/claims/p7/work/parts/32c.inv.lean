/-! IDEA's inverse; the undoing words. -/
theorem q_i64 (n : Nat) (hn : n < 2 ^ 31) : (Int32.toInt64 (nI n)).toInt = n := by
  rw [Int32.toInt_toInt64, nI_toInt hn]
theorem q_one (n : Nat) (hn : n < 65536) : v_Mo_timesV (v_Mo_timesV (nI 1) (nI 1)) (nI n) = nI n := by
  rw [show v_Mo_timesV (nI 1) (nI 1) = nI 1 by decide +kernel]
  unfold v_Mo_timesV
  rw [if_neg (show ¬ nI 1 = 0 by decide +kernel)]
  by_cases h : nI n = 0
  · rw [if_pos h, h]
    decide +kernel
  · rw [if_neg h]
    have e1 : (Int32.toInt64 (nI 1)) * (Int32.toInt64 (nI n)) = Int32.toInt64 (nI n) := by
      rw [show Int32.toInt64 (nI 1) = 1 by decide +kernel, Int64.one_mul]
    have e2 : (Int32.toInt64 (nI n)) / 65537 = 0 := by
      apply Int64.toInt_inj.mp
      rw [Int64.toInt_div, q_i64 n (by omega), show (65537 : Int64).toInt = 65537 by decide +kernel, show (0 : Int64).toInt = 0 by decide +kernel]
      rw [Int.tdiv_eq_zero_of_lt (by omega) (by omega)]
      decide
    rw [e1, e2, Int64.zero_mul, Int64.sub_zero, q_and16]
    have e3 : Int64.toInt32 (Int32.toInt64 (nI n)) = nI n := Int32.toInt32_toInt64 _
    rw [e3, pk_tn (by omega), Nat.mod_eq_of_lt (by omega)]
theorem q_inv (x : Int32) (hx : x &&& 65535 = x) : v_Id_inverseV x = v_Mo_inverseV x := by
  obtain ⟨n, hn, rfl⟩ : ∃ n : Nat, n < 65536 ∧ x = nI n := ⟨x.toBitVec.toNat % 2 ^ 16, Nat.mod_lt _ (by decide), by rw [← q_and16, hx]⟩
  have hl : ∀ t, v_Mo_inverseV_L4 (nI n) (t + 1) = v_Id_inverseV_L4 (nI n) t := by
    intro t
    induction t with
    | zero => exact q_one n hn
    | succ t ih =>
      show v_Mo_timesV (v_Mo_timesV (v_Mo_inverseV_L4 (nI n) (t + 1)) (v_Mo_inverseV_L4 (nI n) (t + 1))) (nI n) = v_Id_timesV (v_Id_timesV (v_Id_inverseV_L4 (nI n) t) (v_Id_inverseV_L4 (nI n) t)) (nI n)
      rw [ih, q_tm, q_tm]
  exact (hl 15).symm
theorem q_w16 (zA : Nat → Nat → Nat → Int32) (j : Nat) (a b : Int64) : ∀ t i, i < t → ((v_Id_scheduleV_L9 zA j a b t).2.2 j 13 i) &&& 65535 = (v_Id_scheduleV_L9 zA j a b t).2.2 j 13 i := by
  intro t
  induction t with
  | zero => intro i hi; omega
  | succ t ih =>
    intro i hi
    have wr : ∀ (A : Nat → Nat → Nat → Int32) (x : Int64) (k : Int32), (i < t → (A j 13 i) &&& 65535 = A j 13 i) → (az_w A j 13 t (v_Id_quarterOfV x k) j 13 i) &&& 65535 = az_w A j 13 t (v_Id_quarterOfV x k) j 13 i := by
      intro A x k h
      by_cases hc : i = t
      · rw [hc, az_w_s]
        exact q_mm _
      · rw [az_w_k hc]
        exact h (by omega)
    rw [v_Id_scheduleV_L9_s]
    split
    · split
      · exact wr _ _ _ (ih i)
      · exact wr _ _ _ (ih i)
    · exact wr _ _ _ (ih i)
def az_U (A : Nat → Nat → Int32) : Prop := ∀ u, u < 9 → A 14 (6 * u) = v_Mo_inverseV (A 13 (6 * u)) ∧ A 14 (6 * u + 1) = (-(A 13 (6 * u + 1))) &&& 65535 ∧ A 14 (6 * u + 2) = (-(A 13 (6 * u + 2))) &&& 65535 ∧ A 14 (6 * u + 3) = v_Mo_inverseV (A 13 (6 * u + 3))
theorem q_un (zA : Nat → Nat → Nat → Int32) (j : Nat) (a b : Int64) : ∀ t, t ≤ 9 → ∀ u, u < t → v_Id_scheduleV_L96 zA j a b t j 14 (6 * u) = v_Id_inverseV ((v_Id_scheduleV_L9 zA j a b 52).2.2 j 13 (6 * u)) ∧ v_Id_scheduleV_L96 zA j a b t j 14 (6 * u + 1) = (-((v_Id_scheduleV_L9 zA j a b 52).2.2 j 13 (6 * u + 1))) &&& 65535 ∧ v_Id_scheduleV_L96 zA j a b t j 14 (6 * u + 2) = (-((v_Id_scheduleV_L9 zA j a b 52).2.2 j 13 (6 * u + 2))) &&& 65535 ∧ v_Id_scheduleV_L96 zA j a b t j 14 (6 * u + 3) = v_Id_inverseV ((v_Id_scheduleV_L9 zA j a b 52).2.2 j 13 (6 * u + 3)) := by
  intro t
  induction t with
  | zero => intro _ u hu; omega
  | succ t ih =>
    intro ht u hu
    have e13 := q_s4b zA j a b t
    rw [v_Id_scheduleV_L96_s]
    by_cases hc : u = t
    · subst hc
      refine ⟨?_, ?_, ?_, ?_⟩
      · rw [az_w_k (show 6 * u ≠ 6 * u + 3 by omega), az_w_k (show 6 * u ≠ 6 * u + 2 by omega), az_w_k (show 6 * u ≠ 6 * u + 1 by omega), az_w_s, e13]
      · rw [az_w_k (show 6 * u + 1 ≠ 6 * u + 3 by omega), az_w_k (show 6 * u + 1 ≠ 6 * u + 2 by omega), az_w_s, az_w_i (show 13 ≠ 14 by decide), e13]
      · rw [az_w_k (show 6 * u + 2 ≠ 6 * u + 3 by omega), az_w_s, az_w_i (show 13 ≠ 14 by decide), az_w_i (show 13 ≠ 14 by decide), e13]
      · rw [az_w_s, az_w_i (show 13 ≠ 14 by decide), az_w_i (show 13 ≠ 14 by decide), az_w_i (show 13 ≠ 14 by decide), e13]
    · obtain ⟨h0, h1, h2, h3⟩ := ih (by omega) u (by omega)
      refine ⟨?_, ?_, ?_, ?_⟩
      · rw [az_w_k (by omega), az_w_k (by omega), az_w_k (by omega), az_w_k (by omega), h0]
      · rw [az_w_k (by omega), az_w_k (by omega), az_w_k (by omega), az_w_k (by omega), h1]
      · rw [az_w_k (by omega), az_w_k (by omega), az_w_k (by omega), az_w_k (by omega), h2]
      · rw [az_w_k (by omega), az_w_k (by omega), az_w_k (by omega), az_w_k (by omega), h3]
theorem q_unU (zA : Nat → Nat → Nat → Int32) (j : Nat) (a b : Int64) : az_U (v_Ci_scheduleV_zA zA j 12 a b j) := by
  rw [v_Ci_scheduleV_zA_12]
  intro u hu
  obtain ⟨h0, h1, h2, h3⟩ := q_un zA j a b 9 (Nat.le_refl _) u hu
  have e13 : v_Id_scheduleV_zA zA j a b j 13 = (v_Id_scheduleV_L9 zA j a b 52).2.2 j 13 := q_s4b zA j a b 9
  rw [e13]
  refine ⟨h0.trans (q_inv _ (q_w16 zA j a b 52 _ (by omega))), h1, h2, h3.trans (q_inv _ (q_w16 zA j a b 52 _ (by omega)))⟩
