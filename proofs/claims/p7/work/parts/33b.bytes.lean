/-! A byte fed. -/
theorem q_F1 {j p : Nat} {X : Nat → Nat → Int64} {Y : Nat → Nat → Int32} {I : Nat → Nat → Int32} {L : Nat → Nat → Int64} {u u' : Int64} {v : Int32} : az_F j X (az_u2 X j 1 u) Y Y I (az_v I 1 p v) L (az_vl L 8 j u') :=
  ⟨fun q hq => az_u2_j hq, fun _ _ => rfl, fun q hq => ⟨rfl, rfl, rfl, az_vl_k hq, rfl, rfl⟩, rfl, rfl, rfl⟩
theorem st_byte2 {zG zM : Nat → Nat × Nat} {zO : Nat → Nat} {X : Nat → Nat → Int64} {Y : Nat → Nat → Int32} {A : Nat → Nat → Nat → Int32} {B : Nat → Int32} {I : Nat → Nat → Int32} {L : Nat → Nat → Int64} {j kc p : Nat} {bk : Int32} (hkc : kc < 5) (hco : zO j = az_cn kc) (hg : (zG j).2 = 2) (hgm : (zM j).2 = 2) (hw : ∀ i, i < az_wn kc → A j (az_wc kc) i = I 15 i) (hb : ∀ p, p < 64 → B p = I 1 p) (hc : az_C 2 X Y A (zO j) I L j) (hp : p < 64) :
    az_C 2 (v_Cx_feedStep0V_zX zG zO X Y A B j bk p) (v_Cx_feedStep0V_zY zG zO X Y A B j bk p) A (zO j) (v_Mo_feedByteV_zI zM I L j kc bk p) (v_Mo_feedByteV_zL zM I L j kc bk p) j ∧ (∀ q, q < 64 → v_Cx_feedStep0V_zB zG zO X Y A B j bk p q = v_Mo_feedByteV_zI zM I L j kc bk p 1 q) ∧ az_F j X (v_Cx_feedStep0V_zX zG zO X Y A B j bk p) Y (v_Cx_feedStep0V_zY zG zO X Y A B j bk p) I (v_Mo_feedByteV_zI zM I L j kc bk p) L (v_Mo_feedByteV_zL zM I L j kc bk p) := by
  obtain ⟨c0, c1, c2, c3, c4, c5, c6, c7⟩ := hc
  have on : ∀ b, v_Ci_onV A j (zO j) b = v_Mo_onJV I kc b := fun b => by rw [hco]; exact q_onJ hkc b hw
  have eX : v_Cx_feedStep0V_zX zG zO X Y A B j bk p = v_Cx_fedBehindV_zX zO X A j bk (B p) := if_pos hg
  have eY : v_Cx_feedStep0V_zY zG zO X Y A B j bk p = Y := if_pos hg
  have eB : v_Cx_feedStep0V_zB zG zO X Y A B j bk p = upd B p (v_Cx_fedBehindV zO X A j bk (B p)) := if_pos hg
  have hm2 : nI (zM j).2 = nI 2 := by rw [hgm]
  have new : B p ^^^ v_Ru_byteOfV (v_Ci_onV A j (zO j) (X j 1)) (nI 0) = I 1 p ^^^ Int64.toInt32 (jL_ushr (v_Mo_onJV I kc (L 8 j)) (nI 56)) := by
    rw [q_b0, on, hb p hp, c1]
  rw [eX, eY, eB]
  unfold v_Cx_fedBehindV_zX v_Cx_fedBehindV v_Mo_feedByteV_zI v_Mo_feedByteV_zL
  by_cases h0 : bk = 0
  · rw [if_pos h0, if_pos h0, if_pos hm2, if_pos hm2, if_pos h0, if_pos h0]
    refine ⟨⟨?_, ?_, c2, fun h => absurd h (by decide), ?_, ?_, c6, c7⟩, q_bu hb new, q_F1⟩
    · exact (az_u2_k (by decide)).trans c0
    · rw [az_u2_s, az_vl_s, new, c1]
    · exact (az_u2_k (by decide)).trans c4
    · exact (az_u2_k (by decide)).trans c5
  · rw [if_neg h0, if_neg h0, if_pos hm2, if_pos hm2, if_neg h0, if_neg h0]
    refine ⟨⟨?_, ?_, c2, fun h => absurd h (by decide), ?_, ?_, c6, c7⟩, q_bu hb new, q_F1⟩
    · exact (az_u2_k (by decide)).trans c0
    · rw [az_u2_s, az_vl_s, hb p hp, c1]
    · exact (az_u2_k (by decide)).trans c4
    · exact (az_u2_k (by decide)).trans c5
