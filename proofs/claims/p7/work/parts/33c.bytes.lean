theorem st_byte3 {zG zM : Nat → Nat × Nat} {zO : Nat → Nat} {X : Nat → Nat → Int64} {Y : Nat → Nat → Int32} {A : Nat → Nat → Nat → Int32} {B : Nat → Int32} {I : Nat → Nat → Int32} {L : Nat → Nat → Int64} {j kc p : Nat} {bk : Int32} (hkc : kc < 5) (hco : zO j = az_cn kc) (hg : (zG j).2 = 3) (hgm : (zM j).2 = 3) (hw : ∀ i, i < az_wn kc → A j (az_wc kc) i = I 15 i) (hb : ∀ p, p < 64 → B p = I 1 p) (hc : az_C 3 X Y A (zO j) I L j) (hp : p < 64) :
    az_C 3 (v_Cx_feedStep0V_zX zG zO X Y A B j bk p) (v_Cx_feedStep0V_zY zG zO X Y A B j bk p) A (zO j) (v_Mo_feedByteV_zI zM I L j kc bk p) (v_Mo_feedByteV_zL zM I L j kc bk p) j ∧ (∀ q, q < 64 → (v_Cx_feedStep0V_zB zG zO X Y A B j bk p) q = (v_Mo_feedByteV_zI zM I L j kc bk p) 1 q) ∧ az_F j X (v_Cx_feedStep0V_zX zG zO X Y A B j bk p) Y (v_Cx_feedStep0V_zY zG zO X Y A B j bk p) I (v_Mo_feedByteV_zI zM I L j kc bk p) L (v_Mo_feedByteV_zL zM I L j kc bk p) := by
  obtain ⟨c0, c1, c2, c3, c4, c5, c6, c7⟩ := hc
  have on : ∀ b, v_Ci_onV A j (zO j) b = v_Mo_onJV I kc b := fun b => by rw [hco]; exact q_onJ hkc b hw
  have n2 : ¬ (zG j).2 = 2 := by omega
  have m2 : ¬ nI (zM j).2 = nI 2 := by rw [hgm]; decide +kernel
  have m3 : nI (zM j).2 = nI 3 := by rw [hgm]
  have eX : v_Cx_feedStep0V_zX zG zO X Y A B j bk p = v_Cx_nextOfOwnStreamV_zX zO X Y A j := (if_neg n2).trans (if_pos hg)
  have eY : v_Cx_feedStep0V_zY zG zO X Y A B j bk p = v_Cx_nextOfOwnStreamV_zY zO X Y A j := (if_neg n2).trans (if_pos hg)
  have eB : v_Cx_feedStep0V_zB zG zO X Y A B j bk p = upd B p (B p ^^^ v_Cx_nextOfOwnStreamV zO X Y A j) := (if_neg n2).trans (if_pos hg)
  rw [eX, eY, eB]
  have eN : ∀ v : Int32, az_v I 1 p v 9 j = Y j 0 := fun v => (congrFun (az_v_i (show 9 ≠ 1 by decide)) j).trans c2.symm
  have by0 : ∀ (x y : Int64), x = y → B p ^^^ v_Ru_byteOfV x (Y j 0) = I 1 p ^^^ (Int64.toInt32 (jL_ushr y (nI 56 - nI 8 * I 9 j)) &&& nI 255) := by
    intro x y hxy
    rw [hxy, hb p hp, c2]
    rfl
  unfold v_Cx_nextOfOwnStreamV_zX v_Cx_nextOfOwnStreamV_zY v_Cx_nextOfOwnStreamV v_Mo_feedByteV_zI v_Mo_feedByteV_zL
  by_cases h0 : Y j 0 = 0
  · have h0m : I 9 j = 0 := by rw [← c2]; exact h0
    rw [if_pos h0, if_pos h0, if_pos h0, if_neg m2, if_neg m2, if_pos m3, if_pos m3, if_pos h0m, if_pos h0m, az_u2_s, az_vl_s, eN, by0 _ (v_Mo_onJV I kc (L 8 j)) (by rw [on, c1])]
    refine ⟨⟨(az_u2_k (by decide)).trans c0, ?_, ?_, fun h => absurd h (by decide), (az_u2_k (by decide)).trans c4, (az_u2_k (by decide)).trans c5, (az_u2_k (by decide)).trans c6, by rw [az_u2_k (show 3 ≠ 0 by decide)]; exact c7⟩, ?_, ?_⟩
    · rw [az_u2_s, az_vl_s, on, c1]
    · rw [az_u2_s, az_v_s]
    · intro q hq
      rw [az_v_i (show 1 ≠ 9 by decide)]
      exact q_bu hb rfl q hq
    · exact ⟨fun q hq => az_u2_j hq, fun q hq => az_u2_j hq, fun q hq => ⟨(az_v_k hq).trans rfl, rfl, rfl, (az_vl_k hq).trans (az_vl_k hq), rfl, rfl⟩, rfl, rfl, rfl⟩
  · have h0m : ¬ I 9 j = 0 := by rw [← c2]; exact h0
    rw [if_neg h0, if_neg h0, if_neg h0, if_neg m2, if_neg m2, if_pos m3, if_pos m3, if_neg h0m, if_neg h0m, eN, by0 _ _ c1]
    refine ⟨⟨c0, ?_, ?_, fun h => absurd h (by decide), c4, c5, (az_u2_k (by decide)).trans c6, by rw [az_u2_k (show 3 ≠ 0 by decide)]; exact c7⟩, ?_, ?_⟩
    · rw [az_vl_s]; exact c1
    · rw [az_u2_s, az_v_s]
    · intro q hq
      rw [az_v_i (show 1 ≠ 9 by decide)]
      exact q_bu hb rfl q hq
    · exact ⟨fun _ _ => rfl, fun q hq => az_u2_j hq, fun q hq => ⟨(az_v_k hq).trans rfl, rfl, rfl, az_vl_k hq, rfl, rfl⟩, rfl, rfl, rfl⟩
theorem st_byte4 {zG zM : Nat → Nat × Nat} {zO : Nat → Nat} {X : Nat → Nat → Int64} {Y : Nat → Nat → Int32} {A : Nat → Nat → Nat → Int32} {B : Nat → Int32} {I : Nat → Nat → Int32} {L : Nat → Nat → Int64} {j kc p : Nat} {bk : Int32} (hkc : kc < 5) (hco : zO j = az_cn kc) (hg : (zG j).2 = 4) (hgm : (zM j).2 = 4) (hw : ∀ i, i < az_wn kc → A j (az_wc kc) i = I 15 i) (hb : ∀ p, p < 64 → B p = I 1 p) (hc : az_C 4 X Y A (zO j) I L j) (hp : p < 64) :
    az_C 4 (v_Cx_feedStep0V_zX zG zO X Y A B j bk p) (v_Cx_feedStep0V_zY zG zO X Y A B j bk p) A (zO j) (v_Mo_feedByteV_zI zM I L j kc bk p) (v_Mo_feedByteV_zL zM I L j kc bk p) j ∧ (∀ q, q < 64 → (v_Cx_feedStep0V_zB zG zO X Y A B j bk p) q = (v_Mo_feedByteV_zI zM I L j kc bk p) 1 q) ∧ az_F j X (v_Cx_feedStep0V_zX zG zO X Y A B j bk p) Y (v_Cx_feedStep0V_zY zG zO X Y A B j bk p) I (v_Mo_feedByteV_zI zM I L j kc bk p) L (v_Mo_feedByteV_zL zM I L j kc bk p) := by
  obtain ⟨c0, c1, c2, c3, c4, c5, c6, c7⟩ := hc
  have on : ∀ b, v_Ci_onV A j (zO j) b = v_Mo_onJV I kc b := fun b => by rw [hco]; exact q_onJ hkc b hw
  have n2 : ¬ (zG j).2 = 2 := by omega
  have m2 : ¬ nI (zM j).2 = nI 2 := by rw [hgm]; decide +kernel
  have n3 : ¬ (zG j).2 = 3 := by omega
  have m3 : ¬ nI (zM j).2 = nI 3 := by rw [hgm]; decide +kernel
  have m4 : nI (zM j).2 = nI 4 := by rw [hgm]
  have eX : v_Cx_feedStep0V_zX zG zO X Y A B j bk p = v_Cx_nextOfCountedStreamV_zX zO X Y A j := (if_neg n2).trans ((if_neg n3).trans (if_pos hg))
  have eY : v_Cx_feedStep0V_zY zG zO X Y A B j bk p = v_Cx_nextOfCountedStreamV_zY zO X Y A j := (if_neg n2).trans ((if_neg n3).trans (if_pos hg))
  have eB : v_Cx_feedStep0V_zB zG zO X Y A B j bk p = upd B p (B p ^^^ v_Cx_nextOfCountedStreamV zO X Y A j) := (if_neg n2).trans ((if_neg n3).trans (if_pos hg))
  rw [eX, eY, eB]
  have eN : ∀ v : Int32, az_v I 1 p v 9 j = Y j 0 := fun v => (congrFun (az_v_i (show 9 ≠ 1 by decide)) j).trans c2.symm
  have by0 : ∀ (x y : Int64), x = y → B p ^^^ v_Ru_byteOfV x (Y j 0) = I 1 p ^^^ (Int64.toInt32 (jL_ushr y (nI 56 - nI 8 * I 9 j)) &&& nI 255) := by
    intro x y hxy
    rw [hxy, hb p hp, c2]
    rfl
  have str : (if Y j 0 = 0 then v_Ci_onV A j (zO j) (X j 1) else X j 2) = v_Mo_onJV I kc (L 8 j) := by
    by_cases h0 : Y j 0 = 0
    · rw [if_pos h0, on, c1]
    · rw [if_neg h0, c3 rfl h0, on, c1]
  unfold v_Cx_nextOfCountedStreamV_zX v_Cx_nextOfCountedStreamV_zY v_Cx_nextOfCountedStreamV v_Mo_feedByteV_zI v_Mo_feedByteV_zL
  simp only [az_u2_s, az_v_s, eN]
  by_cases h0 : Y j 0 = 0
  · rw [if_pos h0] at str
    rw [if_pos h0, if_pos h0, if_pos h0, if_neg m2, if_neg m2, if_neg m3, if_neg m3, if_pos m4, if_pos m4]
    by_cases h1 : ((Y j 0) + nI 1) - ((Y j 0) + nI 1) / nI 8 * nI 8 = 0
    · rw [if_pos h1, if_pos h1, if_pos h1, if_pos h1, if_pos h1, by0 _ _ str]
      refine ⟨⟨?_, ?_, ?_, ?_, ?_, ?_, (az_u2_k (by decide)).trans c6, by rw [az_u2_k (show 3 ≠ 0 by decide)]; exact c7⟩, ?_, ?_⟩
      · rw [az_u2_k (show 0 ≠ 1 by decide), az_u2_k (show 0 ≠ 2 by decide)]; exact c0
      · rw [az_u2_s, az_vl_s, az_u2_k (show 1 ≠ 2 by decide), c1]
      · rw [az_u2_s, az_v_s]
      · intro _ h9
        rw [az_u2_s] at h9
        exact absurd h1 h9
      · rw [az_u2_k (show 3 ≠ 1 by decide), az_u2_k (show 3 ≠ 2 by decide)]; exact c4
      · rw [az_u2_k (show 4 ≠ 1 by decide), az_u2_k (show 4 ≠ 2 by decide)]; exact c5
      · intro q hq
        rw [az_v_i (show 1 ≠ 9 by decide)]
        exact q_bu hb rfl q hq
      · exact ⟨fun q hq => (az_u2_j hq).trans (az_u2_j hq), fun q hq => az_u2_j hq, fun q hq => ⟨(az_v_k hq).trans rfl, rfl, rfl, az_vl_k hq, rfl, rfl⟩, rfl, rfl, rfl⟩
    · rw [if_neg h1, if_neg h1, if_neg h1, if_neg h1, if_neg h1, by0 _ _ str]
      refine ⟨⟨?_, ?_, ?_, ?_, ?_, ?_, (az_u2_k (by decide)).trans c6, by rw [az_u2_k (show 3 ≠ 0 by decide)]; exact c7⟩, ?_, ?_⟩
      · rw [az_u2_k (show 0 ≠ 2 by decide)]; exact c0
      · rw [az_u2_k (show 1 ≠ 2 by decide), az_vl_s]; exact c1
      · rw [az_u2_s, az_v_s]
      · intro _ _
        rw [az_u2_s, az_u2_k (show 1 ≠ 2 by decide)]
      · rw [az_u2_k (show 3 ≠ 2 by decide)]; exact c4
      · rw [az_u2_k (show 4 ≠ 2 by decide)]; exact c5
      · intro q hq
        rw [az_v_i (show 1 ≠ 9 by decide)]
        exact q_bu hb rfl q hq
      · exact ⟨fun q hq => az_u2_j hq, fun q hq => az_u2_j hq, fun q hq => ⟨(az_v_k hq).trans rfl, rfl, rfl, az_vl_k hq, rfl, rfl⟩, rfl, rfl, rfl⟩
  · have hst := c3 rfl h0
    rw [if_neg h0] at str
    rw [if_neg h0, if_neg h0, if_neg h0, if_neg m2, if_neg m2, if_neg m3, if_neg m3, if_pos m4, if_pos m4]
    by_cases h1 : ((Y j 0) + nI 1) - ((Y j 0) + nI 1) / nI 8 * nI 8 = 0
    · rw [if_pos h1, if_pos h1, if_pos h1, if_pos h1, if_pos h1, by0 _ _ str]
      refine ⟨⟨?_, ?_, ?_, ?_, ?_, ?_, (az_u2_k (by decide)).trans c6, by rw [az_u2_k (show 3 ≠ 0 by decide)]; exact c7⟩, ?_, ?_⟩
      · rw [az_u2_k (show 0 ≠ 1 by decide)]; exact c0
      · rw [az_u2_s, az_vl_s, c1]
      · rw [az_u2_s, az_v_s]
      · intro _ h9
        rw [az_u2_s] at h9
        exact absurd h1 h9
      · rw [az_u2_k (show 3 ≠ 1 by decide)]; exact c4
      · rw [az_u2_k (show 4 ≠ 1 by decide)]; exact c5
      · intro q hq
        rw [az_v_i (show 1 ≠ 9 by decide)]
        exact q_bu hb rfl q hq
      · exact ⟨fun q hq => az_u2_j hq, fun q hq => az_u2_j hq, fun q hq => ⟨(az_v_k hq).trans rfl, rfl, rfl, az_vl_k hq, rfl, rfl⟩, rfl, rfl, rfl⟩
    · rw [if_neg h1, if_neg h1, if_neg h1, if_neg h1, if_neg h1, by0 _ _ str]
      refine ⟨⟨c0, ?_, ?_, ?_, c4, c5, (az_u2_k (by decide)).trans c6, by rw [az_u2_k (show 3 ≠ 0 by decide)]; exact c7⟩, ?_, ?_⟩
      · rw [az_vl_s]; exact c1
      · rw [az_u2_s, az_v_s]
      · exact fun _ _ => hst
      · intro q hq
        rw [az_v_i (show 1 ≠ 9 by decide)]
        exact q_bu hb rfl q hq
      · exact ⟨fun _ _ => rfl, fun q hq => az_u2_j hq, fun q hq => ⟨(az_v_k hq).trans rfl, rfl, rfl, az_vl_k hq, rfl, rfl⟩, rfl, rfl, rfl⟩
