/-! A block fed; a byte taken; the loops of feed and take. -/
theorem q_rd {B : Nat → Int32} {I : Nat → Nat → Int32} {k : Nat} (hb : ∀ p, p < 64 → B p = I 1 p) (hk : k ≤ 56) : v_Ru_readBlockV B k = v_Mo_eightV I k := by
  have hl : ∀ t, t ≤ 8 → v_Ru_readBlockV_L5 B k t = v_Mo_eightV_L5 I k t := by
    intro t
    induction t with
    | zero => intro _; rfl
    | succ t ih => intro ht; rw [v_Ru_readBlockV_L5_s, v_Mo_eightV_L5_s, ih (by omega), hb (k + t) (by omega)]
  exact hl 8 (Nat.le_refl _)
theorem q_by (b : Int64) (t : Nat) (ht : t < 8) : v_Ru_byteOfV b (nI t) = (Int64.toInt32 (jL_ushr b (nI (56 - (8 * t))))) &&& nI 255 := by
  unfold v_Ru_byteOfV
  rw [pk_mul, pk_sub (a := 56) (b := 8 * t) (by omega)]
theorem q_wr {B : Nat → Int32} {I : Nat → Nat → Int32} {k : Nat} {b b' : Int64} (hb : ∀ p, p < 64 → B p = I 1 p) (hbb : b = b') : ∀ p, p < 64 → v_Ru_writeBlockV_zB B k b p = v_Mo_putEightV_zI I k b' 1 p := by
  subst hbb
  have hl : ∀ t, t ≤ 8 → ∀ p, p < 64 → v_Ru_writeBlockV_L3 B k b t p = v_Mo_putEightV_L3 I k b t 1 p := by
    intro t
    induction t with
    | zero => exact fun _ => hb
    | succ t ih =>
      intro ht
      rw [v_Ru_writeBlockV_L3_s, v_Mo_putEightV_L3_s]
      exact q_bu (ih (by omega)) (q_by b t (by omega))
  exact hl 8 (Nat.le_refl _)
theorem q_Fp {j k : Nat} {X X' : Nat → Nat → Int64} {Y : Nat → Nat → Int32} {I : Nat → Nat → Int32} {L L' : Nat → Nat → Int64} {b : Int64} (hX : ∀ q, q ≠ j → X' q = X q) (hL : ∀ c, c ≠ 8 → L' c = L c) (hL8 : ∀ q, q ≠ j → L' 8 q = L 8 q) : az_F j X X' Y Y I (v_Mo_putEightV_zI I k b) L L' := by
  have e : ∀ c, c ≠ 1 → v_Mo_putEightV_zI I k b c = I c := fun c hc => fr_putEight I k b hc 8
  refine ⟨hX, fun _ _ => rfl, fun q hq => ⟨?_, ?_, ?_, hL8 q hq, ?_, ?_⟩, e 3 (by decide), hL 4 (by decide), hL 5 (by decide)⟩
  · rw [e 9 (by decide)]
  · rw [e 14 (by decide)]
  · rw [hL 7 (by decide)]
  · rw [hL 12 (by decide)]
  · rw [hL 13 (by decide)]
theorem st_block {zG zM : Nat → Nat × Nat} {zO : Nat → Nat} {X : Nat → Nat → Int64} {Y : Nat → Nat → Int32} {A : Nat → Nat → Nat → Int32} {B : Nat → Int32} {I : Nat → Nat → Int32} {L : Nat → Nat → Int64} {j kc p m : Nat} {bk : Int32} (hkc : kc < 5) (hco : zO j = az_cn kc) (hg : (zG j).2 = m) (hgm : (zM j).2 = m) (hm : m ≤ 1) (hw : ∀ i, i < az_wn kc → A j (az_wc kc) i = I 15 i) (hu : kc = 4 → az_U (A j)) (hb : ∀ p, p < 64 → B p = I 1 p) (hc : az_C m X Y A (zO j) I L j) (hp : p ≤ 56) :
    az_C m (v_Cx_feedStep1V_zX zG zO X A B j bk p) Y A (zO j) (v_Mo_feedBlockV_zI zM I L j kc bk p) (v_Mo_feedBlockV_zL zM I L j kc bk p) j ∧ (∀ q, q < 64 → v_Cx_feedStep1V_zB zG zO X A B j bk p q = v_Mo_feedBlockV_zI zM I L j kc bk p 1 q) ∧ az_F j X (v_Cx_feedStep1V_zX zG zO X A B j bk p) Y Y I (v_Mo_feedBlockV_zI zM I L j kc bk p) L (v_Mo_feedBlockV_zL zM I L j kc bk p) := by
  obtain ⟨c0, c1, c2, c3, c4, c5, c6, c7⟩ := hc
  have on : ∀ b, v_Ci_onV A j (zO j) b = v_Mo_onJV I kc b := fun b => by rw [hco]; exact q_onJ hkc b hw
  have off : ∀ b, v_Ci_backV A j (zO j) b = v_Mo_offJV I kc b := fun b => by rw [hco]; exact q_offJ hkc b hw hu
  have e9 : ∀ b, v_Mo_putEightV_zI I p b 9 = I 9 := fun b => fr_putEight I p b (by decide) 8
  have e14 : ∀ b, v_Mo_putEightV_zI I p b 14 = I 14 := fun b => fr_putEight I p b (by decide) 8
  have rd := q_rd hb hp
  have nm4 : m = 4 → False := by omega
  by_cases h0 : m = 0
  · have g0 : (zG j).2 = 0 := by omega
    have m0 : nI (zM j).2 = 0 := by rw [hgm, h0]; rfl
    have eX : v_Cx_feedStep1V_zX zG zO X A B j bk p = X := if_pos g0
    have eB : v_Cx_feedStep1V_zB zG zO X A B j bk p = v_Ru_writeBlockV_zB B p (v_Ci_onOrBackV A j (zO j) bk (v_Ru_readBlockV B p)) := if_pos g0
    rw [eX, eB]
    unfold v_Mo_feedBlockV_zI v_Mo_feedBlockV_zL v_Ci_onOrBackV
    by_cases hk : bk = 0
    · rw [if_pos m0, if_pos m0, if_pos hk, if_pos hk, if_pos hk]
      refine ⟨⟨c0, c1, ?_, fun h => (nm4 h).elim, c4, c5, ?_, c7⟩, q_wr hb (by rw [on, rd]), q_Fp (fun _ _ => rfl) (fun _ _ => rfl) (fun _ _ => rfl)⟩
      · rw [e9]; exact c2
      · rw [e14]; exact c6
    · rw [if_pos m0, if_pos m0, if_neg hk, if_neg hk, if_neg hk]
      refine ⟨⟨c0, c1, ?_, fun h => (nm4 h).elim, c4, c5, ?_, c7⟩, q_wr hb (by rw [off, rd]), q_Fp (fun _ _ => rfl) (fun _ _ => rfl) (fun _ _ => rfl)⟩
      · rw [e9]; exact c2
      · rw [e14]; exact c6
  · have g0 : ¬ (zG j).2 = 0 := by omega
    have m0 : ¬ nI (zM j).2 = 0 := by rw [hgm, show m = 1 by omega]; decide +kernel
    have eX : v_Cx_feedStep1V_zX zG zO X A B j bk p = v_Cx_chainedV_zX zO X A j bk (v_Ru_readBlockV B p) := if_neg g0
    have eB : v_Cx_feedStep1V_zB zG zO X A B j bk p = v_Ru_writeBlockV_zB B p (v_Cx_chainedV zO X A j bk (v_Ru_readBlockV B p)) := if_neg g0
    rw [eX, eB]
    unfold v_Mo_feedBlockV_zI v_Mo_feedBlockV_zL v_Cx_chainedV_zX v_Cx_chainedV
    by_cases hk : bk = 0
    · rw [if_neg m0, if_neg m0, if_pos hk, if_pos hk, if_pos hk, if_pos hk, az_u2_s, az_vl_s]
      refine ⟨⟨(az_u2_k (by decide)).trans c0, ?_, ?_, fun h => (nm4 h).elim, (az_u2_k (by decide)).trans c4, (az_u2_k (by decide)).trans c5, ?_, c7⟩, q_wr hb (by rw [on, rd, c1]), q_Fp (fun q hq => az_u2_j hq) (fun c hc => az_vl_i hc) (fun q hq => az_vl_k hq)⟩
      · rw [az_u2_s, az_vl_s, on, rd, c1]
      · rw [e9]; exact c2
      · rw [e14]; exact c6
    · rw [if_neg m0, if_neg m0, if_neg hk, if_neg hk, if_neg hk, if_neg hk]
      refine ⟨⟨(az_u2_k (by decide)).trans c0, ?_, ?_, fun h => (nm4 h).elim, (az_u2_k (by decide)).trans c4, (az_u2_k (by decide)).trans c5, ?_, c7⟩, q_wr hb (by rw [off, rd, c1]), q_Fp (fun q hq => az_u2_j hq) (fun c hc => az_vl_i hc) (fun q hq => az_vl_k hq)⟩
      · rw [az_u2_s, az_vl_s, rd]
      · rw [e9]; exact c2
      · rw [e14]; exact c6
theorem st_byte {zG zM : Nat → Nat × Nat} {zO : Nat → Nat} {X : Nat → Nat → Int64} {Y : Nat → Nat → Int32} {A : Nat → Nat → Nat → Int32} {B : Nat → Int32} {I : Nat → Nat → Int32} {L : Nat → Nat → Int64} {j kc p m : Nat} {bk : Int32} (hkc : kc < 5) (hco : zO j = az_cn kc) (hg : (zG j).2 = m) (hgm : (zM j).2 = m) (hm : 2 ≤ m) (hm4 : m ≤ 4) (hw : ∀ i, i < az_wn kc → A j (az_wc kc) i = I 15 i) (hb : ∀ p, p < 64 → B p = I 1 p) (hc : az_C m X Y A (zO j) I L j) (hp : p < 64) :
    az_C m (v_Cx_feedStep0V_zX zG zO X Y A B j bk p) (v_Cx_feedStep0V_zY zG zO X Y A B j bk p) A (zO j) (v_Mo_feedByteV_zI zM I L j kc bk p) (v_Mo_feedByteV_zL zM I L j kc bk p) j ∧ (∀ q, q < 64 → v_Cx_feedStep0V_zB zG zO X Y A B j bk p q = v_Mo_feedByteV_zI zM I L j kc bk p 1 q) ∧ az_F j X (v_Cx_feedStep0V_zX zG zO X Y A B j bk p) Y (v_Cx_feedStep0V_zY zG zO X Y A B j bk p) I (v_Mo_feedByteV_zI zM I L j kc bk p) L (v_Mo_feedByteV_zL zM I L j kc bk p) := by
  rcases (by omega : m = 2 ∨ m = 3 ∨ m = 4) with rfl | rfl | rfl
  · exact st_byte2 hkc hco hg hgm hw hb hc hp
  · exact st_byte3 hkc hco hg hgm hw hb hc hp
  · exact st_byte4 hkc hco hg hgm hw hb hc hp
/-- the loop of feed, a byte at a time -/
theorem lp_byte {zG zM : Nat → Nat × Nat} {zO : Nat → Nat} {X : Nat → Nat → Int64} {Y : Nat → Nat → Int32} {A : Nat → Nat → Nat → Int32} {B : Nat → Int32} {I : Nat → Nat → Int32} {L : Nat → Nat → Int64} {j kc k mm m : Nat} {bk : Int32} (hkc : kc < 5) (hco : zO j = az_cn kc) (hg : (zG j).2 = m) (hgm : (zM j).2 = m) (hm : 2 ≤ m) (hm4 : m ≤ 4) (hw : ∀ i, i < az_wn kc → A j (az_wc kc) i = v_Mo_prepareJV_zI I L j kc 15 i) (hb : ∀ p, p < 64 → B p = I 1 p) (hc : az_C m X Y A (zO j) I L j) :
    ∀ t, k + t ≤ 64 → az_C m (v_Cx_feedBytes1V_L18 zG zO X Y A B j bk k mm t).1 (v_Cx_feedBytes1V_L18 zG zO X Y A B j bk k mm t).2.1 A (zO j) (v_Mo_feed1V_L96 zM I L j kc bk k mm t).1 (v_Mo_feed1V_L96 zM I L j kc bk k mm t).2 j ∧ (∀ q, q < 64 → (v_Cx_feedBytes1V_L18 zG zO X Y A B j bk k mm t).2.2 q = (v_Mo_feed1V_L96 zM I L j kc bk k mm t).1 1 q) ∧ az_F j X (v_Cx_feedBytes1V_L18 zG zO X Y A B j bk k mm t).1 Y (v_Cx_feedBytes1V_L18 zG zO X Y A B j bk k mm t).2.1 I (v_Mo_feed1V_L96 zM I L j kc bk k mm t).1 L (v_Mo_feed1V_L96 zM I L j kc bk k mm t).2 ∧ (v_Mo_feed1V_L96 zM I L j kc bk k mm t).1 15 = v_Mo_prepareJV_zI I L j kc 15 := by
  have e : ∀ c, c ≠ 15 → c ≠ 16 → v_Mo_prepareJV_zI I L j kc c = I c := fun c h5 h6 => fr_prep I L j kc h5 h6
  intro t
  induction t with
  | zero =>
    intro _
    rw [v_Cx_feedBytes1V_L18_z, v_Mo_feed1V_L96_z]
    dsimp only
    refine ⟨?_, fun q hq => ?_, ?_, rfl⟩
    · obtain ⟨c0, c1, c2, c3, c4, c5, c6, c7⟩ := hc
      exact ⟨c0, c1, by rw [e 9 (by decide) (by decide)]; exact c2, c3, c4, c5, by rw [e 14 (by decide) (by decide)]; exact c6, c7⟩
    · rw [e 1 (by decide) (by decide)]
      exact hb q hq
    · exact ⟨fun _ _ => rfl, fun _ _ => rfl, fun q _ => ⟨by rw [e 9 (by decide) (by decide)], by rw [e 14 (by decide) (by decide)], rfl, rfl, rfl, rfl⟩, e 3 (by decide) (by decide), rfl, rfl⟩
  | succ t ih =>
    intro ht
    obtain ⟨i1, i2, i3, i4⟩ := ih (by omega)
    rw [v_Cx_feedBytes1V_L18_s, v_Mo_feed1V_L96_s]
    dsimp only
    obtain ⟨s1, s2, s3⟩ := st_byte (zG := zG) (zM := zM) (p := k + t) (bk := bk) hkc hco hg hgm hm hm4 (fun i hi => (hw i hi).trans (by rw [i4])) i2 i1 (by omega)
    exact ⟨s1, s2, i3.tr s3, (fr_feedByteI _ _ _ _ _ _ _ (by decide) (by decide)).trans i4⟩
/-- the loop of feed, a block at a time: eight turns of the reference are one of the class -/
theorem lp_skip {zM : Nat → Nat × Nat} {I : Nat → Nat → Int32} {L : Nat → Nat → Int64} {j kc k mm : Nat} {bk : Int32} (u : Nat) (hu : u < 2 ^ 20) : ∀ r, 1 ≤ r → r ≤ 8 → v_Mo_feed8V_L96 zM I L j kc bk k mm (8 * u + r) = v_Mo_feed8V_L96 zM I L j kc bk k mm (8 * u + 1) := by
  intro r
  induction r with
  | zero => intro h; omega
  | succ r ih =>
    intro _ h8
    by_cases h1 : r = 0
    · rw [h1]
    · rw [show 8 * u + (r + 1) = (8 * u + r) + 1 by omega, v_Mo_feed8V_L96_s, if_neg (show ¬ nI ((8 * u + r) % 8) = 0 from q_ne (b := 0) (by omega) (by decide) (by omega))]
      exact ih (by omega) (by omega)
theorem lp_block {zG zM : Nat → Nat × Nat} {zO : Nat → Nat} {X : Nat → Nat → Int64} {Y : Nat → Nat → Int32} {A : Nat → Nat → Nat → Int32} {B : Nat → Int32} {I : Nat → Nat → Int32} {L : Nat → Nat → Int64} {j kc k mm mr m : Nat} {bk : Int32} (hkc : kc < 5) (hco : zO j = az_cn kc) (hg : (zG j).2 = m) (hgm : (zM j).2 = m) (hm : m ≤ 1) (hw : ∀ i, i < az_wn kc → A j (az_wc kc) i = v_Mo_prepareJV_zI I L j kc 15 i) (hu : kc = 4 → az_U (A j)) (hb : ∀ p, p < 64 → B p = I 1 p) (hc : az_C m X Y A (zO j) I L j) :
    ∀ t, k + 8 * t ≤ 64 → az_C m (v_Cx_feedBytes8V_L18 zG zO X Y A B j bk k mm t).1 Y A (zO j) (v_Mo_feed8V_L96 zM I L j kc bk k mr (8 * t)).1 (v_Mo_feed8V_L96 zM I L j kc bk k mr (8 * t)).2 j ∧ (∀ q, q < 64 → (v_Cx_feedBytes8V_L18 zG zO X Y A B j bk k mm t).2 q = (v_Mo_feed8V_L96 zM I L j kc bk k mr (8 * t)).1 1 q) ∧ az_F j X (v_Cx_feedBytes8V_L18 zG zO X Y A B j bk k mm t).1 Y Y I (v_Mo_feed8V_L96 zM I L j kc bk k mr (8 * t)).1 L (v_Mo_feed8V_L96 zM I L j kc bk k mr (8 * t)).2 ∧ (v_Mo_feed8V_L96 zM I L j kc bk k mr (8 * t)).1 15 = v_Mo_prepareJV_zI I L j kc 15 := by
  have e : ∀ c, c ≠ 15 → c ≠ 16 → v_Mo_prepareJV_zI I L j kc c = I c := fun c h5 h6 => fr_prep I L j kc h5 h6
  intro t
  induction t with
  | zero =>
    intro _
    rw [v_Cx_feedBytes8V_L18_z, show 8 * 0 = 0 from rfl, v_Mo_feed8V_L96_z]
    dsimp only
    refine ⟨?_, fun q hq => ?_, ?_, rfl⟩
    · obtain ⟨c0, c1, c2, c3, c4, c5, c6, c7⟩ := hc
      exact ⟨c0, c1, by rw [e 9 (by decide) (by decide)]; exact c2, c3, c4, c5, by rw [e 14 (by decide) (by decide)]; exact c6, c7⟩
    · rw [e 1 (by decide) (by decide)]
      exact hb q hq
    · exact ⟨fun _ _ => rfl, fun _ _ => rfl, fun q _ => ⟨by rw [e 9 (by decide) (by decide)], by rw [e 14 (by decide) (by decide)], rfl, rfl, rfl, rfl⟩, e 3 (by decide) (by decide), rfl, rfl⟩
  | succ t ih =>
    intro ht
    obtain ⟨i1, i2, i3, i4⟩ := ih (by omega)
    rw [v_Cx_feedBytes8V_L18_s, show 8 * (t + 1) = 8 * t + 8 by omega, lp_skip t (by omega) 8 (by decide) (by decide), v_Mo_feed8V_L96_s, if_pos (show nI (8 * t % 8) = 0 by rw [show 8 * t % 8 = 0 by omega]; rfl)]
    dsimp only
    obtain ⟨s1, s2, s3⟩ := st_block (zG := zG) (zM := zM) (p := k + 8 * t) (bk := bk) hkc hco hg hgm hm (fun i hi => (hw i hi).trans (by rw [i4])) hu i2 i1 (by omega)
    exact ⟨s1, s2, i3.tr s3, (fr_feedBlockI _ _ _ _ _ _ _ (by decide)).trans i4⟩
/-- the loop of take -/
theorem lp_take {zO : Nat → Nat} {X : Nat → Nat → Int64} {Y : Nat → Nat → Int32} {A : Nat → Nat → Nat → Int32} {B : Nat → Int32} {I : Nat → Nat → Int32} {L : Nat → Nat → Int64} {j kc k mm mr : Nat} (hkc : kc < 5) (hco : zO j = az_cn kc) (hw : ∀ i, i < az_wn kc → A j (az_wc kc) i = v_Mo_prepareJV_zI I L j kc 15 i) (hb : ∀ p, p < 64 → B p = I 1 p) (hc : az_C 5 X Y A (zO j) I L j) :
    ∀ t, k + t ≤ 64 → az_C 5 (v_Tk_add1V_L3 X Y A B j (zO j) k mm t).1 (v_Tk_add1V_L3 X Y A B j (zO j) k mm t).2 A (zO j) (v_Mo_take1V_L53 I L j kc k mr t).1 (v_Mo_take1V_L53 I L j kc k mr t).2 j ∧ (∀ q, q < 64 → B q = (v_Mo_take1V_L53 I L j kc k mr t).1 1 q) ∧ az_F j X (v_Tk_add1V_L3 X Y A B j (zO j) k mm t).1 Y (v_Tk_add1V_L3 X Y A B j (zO j) k mm t).2 I (v_Mo_take1V_L53 I L j kc k mr t).1 L (v_Mo_take1V_L53 I L j kc k mr t).2 ∧ (v_Mo_take1V_L53 I L j kc k mr t).1 15 = v_Mo_prepareJV_zI I L j kc 15 := by
  have e : ∀ c, c ≠ 15 → c ≠ 16 → v_Mo_prepareJV_zI I L j kc c = I c := fun c h5 h6 => fr_prep I L j kc h5 h6
  intro t
  induction t with
  | zero =>
    intro _
    rw [v_Tk_add1V_L3_z, v_Mo_take1V_L53_z]
    dsimp only
    refine ⟨?_, fun q hq => ?_, ?_, rfl⟩
    · obtain ⟨c0, c1, c2, c3, c4, c5, c6, c7⟩ := hc
      exact ⟨c0, c1, by rw [e 9 (by decide) (by decide)]; exact c2, c3, c4, c5, by rw [e 14 (by decide) (by decide)]; exact c6, c7⟩
    · rw [e 1 (by decide) (by decide)]
      exact hb q hq
    · exact ⟨fun _ _ => rfl, fun _ _ => rfl, fun q _ => ⟨by rw [e 9 (by decide) (by decide)], by rw [e 14 (by decide) (by decide)], rfl, rfl, rfl, rfl⟩, e 3 (by decide) (by decide), rfl, rfl⟩
  | succ t ih =>
    intro ht
    obtain ⟨i1, i2, i3, i4⟩ := ih (by omega)
    rw [v_Tk_add1V_L3_s, v_Mo_take1V_L53_s]
    generalize v_Tk_add1V_L3 X Y A B j (zO j) k mm t = s at i1 i3 ⊢
    generalize v_Mo_take1V_L53 I L j kc k mr t = r at i1 i2 i3 i4 ⊢
    obtain ⟨X1, Y1⟩ := s
    obtain ⟨I1, L1⟩ := r
    dsimp only at i1 i2 i3 i4 ⊢
    have on : ∀ b, v_Ci_onV A j (zO j) b = v_Mo_onJV I1 kc b := fun b => by
      rw [hco]
      exact q_onJ hkc b (fun i hi => (hw i hi).trans (by rw [i4]))
    obtain ⟨c0, c1, c2, c3, c4, c5, c6, n, hn, c7⟩ := i1
    have hbt := i2 (k + t) (by omega)
    unfold v_Tk_addByteV_zX v_Tk_addByteV_zY v_Tk_atByteV
    by_cases h8 : Y1 j 3 = nI 8
    · have h8m : I1 14 j = nI 8 := by rw [← c6]; exact h8
      rw [if_pos h8, if_pos h8, if_pos h8m]
      dsimp only
      simp only [az_u2_s, az_v_s, az_vl_s, az_v_i (show 1 ≠ 14 by decide)]
      refine ⟨⟨?_, ?_, ?_, fun h => absurd h (by decide), ?_, ?_, ?_, ⟨1, by decide, ?_⟩⟩, fun q hq => ?_, i3.tr ⟨fun q hq => ?_, fun q hq => ?_, fun q hq => ⟨?_, ?_, ?_, ?_, ?_, ?_⟩, ?_, ?_, ?_⟩, ?_⟩
      · rw [az_u2_k (show 0 ≠ 4 by decide), az_u2_k (show 0 ≠ 4 by decide), az_u2_k (show 0 ≠ 3 by decide), az_vl_i (show 7 ≠ 13 by decide), az_vl_i (show 7 ≠ 13 by decide), az_vl_i (show 7 ≠ 12 by decide)]; exact c0
      · rw [az_u2_k (show 1 ≠ 4 by decide), az_u2_k (show 1 ≠ 4 by decide), az_u2_k (show 1 ≠ 3 by decide), az_vl_i (show 8 ≠ 13 by decide), az_vl_i (show 8 ≠ 13 by decide), az_vl_i (show 8 ≠ 12 by decide)]; exact c1
      · rw [az_u2_k (show 0 ≠ 3 by decide), az_u2_k (show 0 ≠ 3 by decide), az_v_i (show 9 ≠ 14 by decide), az_v_i (show 9 ≠ 14 by decide)]; exact c2
      · rw [az_u2_k (show 3 ≠ 4 by decide), az_u2_k (show 3 ≠ 4 by decide), az_u2_s, az_vl_i (show 12 ≠ 13 by decide), az_vl_i (show 12 ≠ 13 by decide), az_vl_s, on, c4, c5]
      · rw [az_u2_s, az_vl_s, hbt]
      · rw [az_u2_s, az_v_s]
      · rw [az_u2_s]; exact nI_add 0 1
      · exact i2 q hq
      · rw [az_u2_j hq, az_u2_j hq, az_u2_j hq]
      · rw [az_u2_j hq, az_u2_j hq]
      · rw [az_v_i (show 9 ≠ 14 by decide), az_v_i (show 9 ≠ 14 by decide)]
      · rw [az_v_k hq, az_v_k hq]
      · rw [az_vl_i (show 7 ≠ 13 by decide), az_vl_i (show 7 ≠ 13 by decide), az_vl_i (show 7 ≠ 12 by decide)]
      · rw [az_vl_i (show 8 ≠ 13 by decide), az_vl_i (show 8 ≠ 13 by decide), az_vl_i (show 8 ≠ 12 by decide)]
      · rw [az_vl_i (show 12 ≠ 13 by decide), az_vl_i (show 12 ≠ 13 by decide), az_vl_k hq]
      · rw [az_vl_k hq, az_vl_k hq, az_vl_i (show 13 ≠ 12 by decide)]
      · rw [az_v_i (show 3 ≠ 14 by decide), az_v_i (show 3 ≠ 14 by decide)]
      · rw [az_vl_i (show 4 ≠ 13 by decide), az_vl_i (show 4 ≠ 13 by decide), az_vl_i (show 4 ≠ 12 by decide)]
      · rw [az_vl_i (show 5 ≠ 13 by decide), az_vl_i (show 5 ≠ 13 by decide), az_vl_i (show 5 ≠ 12 by decide)]
      · rw [az_v_i (show 15 ≠ 14 by decide), az_v_i (show 15 ≠ 14 by decide)]; exact i4
    · have h8m : ¬ I1 14 j = nI 8 := by rw [← c6]; exact h8
      have n8 : n ≠ 8 := fun e9 => h8 (by rw [c7, e9])
      rw [if_neg h8, if_neg h8, if_neg h8m]
      dsimp only
      refine ⟨⟨?_, ?_, ?_, fun h => absurd h (by decide), ?_, ?_, ?_, ⟨n + 1, by omega, ?_⟩⟩, fun q hq => ?_, i3.tr ⟨fun q hq => ?_, fun q hq => ?_, fun q hq => ⟨?_, ?_, ?_, ?_, ?_, ?_⟩, ?_, ?_, ?_⟩, ?_⟩
      · rw [az_u2_k (show 0 ≠ 4 by decide), az_vl_i (show 7 ≠ 13 by decide)]; exact c0
      · rw [az_u2_k (show 1 ≠ 4 by decide), az_vl_i (show 8 ≠ 13 by decide)]; exact c1
      · rw [az_u2_k (show 0 ≠ 3 by decide), az_v_i (show 9 ≠ 14 by decide)]; exact c2
      · rw [az_u2_k (show 3 ≠ 4 by decide), az_vl_i (show 12 ≠ 13 by decide)]; exact c4
      · rw [az_u2_s, az_vl_s, hbt, c5, c6]
      · rw [az_u2_s, az_v_s, c6]
      · rw [az_u2_s, c7]; exact nI_add n 1
      · rw [az_v_i (show 1 ≠ 14 by decide)]; exact i2 q hq
      · rw [az_u2_j hq]
      · rw [az_u2_j hq]
      · rw [az_v_i (show 9 ≠ 14 by decide)]
      · rw [az_v_k hq]
      · rw [az_vl_i (show 7 ≠ 13 by decide)]
      · rw [az_vl_i (show 8 ≠ 13 by decide)]
      · rw [az_vl_i (show 12 ≠ 13 by decide)]
      · rw [az_vl_k hq]
      · rw [az_v_i (show 3 ≠ 14 by decide)]
      · rw [az_vl_i (show 4 ≠ 13 by decide)]
      · rw [az_vl_i (show 5 ≠ 13 by decide)]
      · rw [az_v_i (show 15 ≠ 14 by decide)]; exact i4
