theorem k_La_blockJ (l : Launch) (hst : l.stackTraces = false) (D : va_G) (g : Nat → ClassId) (ad : Nat → Nat) (G M : Nat → Nat × Nat) (F : Int32) (N0 : Nat) (c0 bk : Int32) (b : Int64) (hgk : aw_gok G) : Met l y_La_block ws_La_block1 rm_La_block1 (va_Pc ([.ref (aw_r ad 0), .int c0, .int bk, .long b, .ref (aw_o ad)] : List Value) (aw_B D g ad G M F N0)) (va_Qi (fun r (_ : Unit) => True) (fun (_ : Unit) t => aw_H D g ad G M F N0 t.heap) (aw_Z N0)) 1 6 (aw_Z N0) := by
  rcases aw_rng 4 (by decide) c0 with h | ⟨j, hj, rfl⟩
  · exact k_La_blockXc l hst D g ad G M F N0 c0 bk b h
  · by_cases h2 : 2 ≤ (G j).1
    · exact k_La_block1 l hst D g ad G M F N0 j bk b hj h2
    · exact k_La_blockXs l hst D g ad G M F N0 j bk b hj (by omega)
theorem k_La_wordJ (l : Launch) (hst : l.stackTraces = false) (D : va_G) (g : Nat → ClassId) (ad : Nat → Nat) (G M : Nat → Nat × Nat) (F : Int32) (N0 : Nat) (c0 i : Int32) (hgk : aw_gok G) : Met l y_La_word ws_La_word1 rm_La_word1 (va_Pc ([.ref (aw_r ad 0), .int c0, .int i, .ref (aw_o ad)] : List Value) (aw_B D g ad G M F N0)) (va_Qi (fun r (_ : Unit) => True) (fun (_ : Unit) t => aw_H D g ad G M F N0 t.heap) (aw_Z N0)) 1 6 (aw_Z N0) := by
  rcases aw_rng 4 (by decide) c0 with h | ⟨j, hj, rfl⟩
  · exact k_La_wordXc l hst D g ad G M F N0 c0 i h
  · by_cases h2 : 2 ≤ (G j).1
    · exact k_La_word1 l hst D g ad G M F N0 j i hj h2
    · exact k_La_wordXs l hst D g ad G M F N0 j i hj (by omega)
theorem k_La_getJ (l : Launch) (hst : l.stackTraces = false) (D : va_G) (g : Nat → ClassId) (ad : Nat → Nat) (G M : Nat → Nat × Nat) (F : Int32) (N0 : Nat) (p0 : Int32) (hgk : aw_gok G) : Met l y_La_get ws_La_get1 rm_La_get1 (va_Pc ([.ref (aw_r ad 0), .int p0, .ref (aw_o ad)] : List Value) (aw_B D g ad G M F N0)) (va_Qi (fun r (_ : Unit) => True) (fun (_ : Unit) t => aw_H D g ad G M F N0 t.heap) (aw_Z N0)) 1 6 (aw_Z N0) := by
  rcases aw_rng 64 (by decide) p0 with h | ⟨k, hk, rfl⟩
  · exact k_La_getX l hst D g ad G M F N0 p0 h
  · exact k_La_get1 l hst D g ad G M F N0 k hk
theorem k_La_tagJ (l : Launch) (hst : l.stackTraces = false) (D : va_G) (g : Nat → ClassId) (ad : Nat → Nat) (G M : Nat → Nat × Nat) (F : Int32) (N0 : Nat) (c0 : Int32) (hgk : aw_gok G) : Met l y_La_tag ws_La_tag1 rm_La_tag1 (va_Pc ([.ref (aw_r ad 0), .int c0, .ref (aw_o ad)] : List Value) (aw_B D g ad G M F N0)) (va_Qi (fun r (_ : Unit) => True) (fun (_ : Unit) t => aw_H D g ad G M F N0 t.heap) (aw_Z N0)) 1 6 (aw_Z N0) := by
  rcases aw_rng 4 (by decide) c0 with h | ⟨j, hj, rfl⟩
  · exact k_La_tagXc l hst D g ad G M F N0 c0 h
  · have hq := hgk j hj
    by_cases h5 : (G j).1 = 3 ∧ (G j).2 = 5
    · exact k_La_tag1 l hst D g ad G M F N0 j hj h5
    · exact k_La_tagXs l hst D g ad G M F N0 j hj (by omega)
theorem k_La_takeJ (l : Launch) (hst : l.stackTraces = false) (D : va_G) (g : Nat → ClassId) (ad : Nat → Nat) (G M : Nat → Nat × Nat) (F : Int32) (N0 : Nat) (c0 fr m0 : Int32) (hgk : aw_gok G) : Met l y_La_take ws_La_take11 rm_La_take11 (va_Pc ([.ref (aw_r ad 0), .int c0, .int fr, .int m0, .ref (aw_o ad)] : List Value) (aw_B D g ad G M F N0)) (va_Qi (fun r (_ : Unit) => True) (fun (_ : Unit) t => aw_H D g ad G M F N0 t.heap) (aw_Z N0)) 1 6 (aw_Z N0) := by
  rcases aw_rng 4 (by decide) c0 with h | ⟨j, hj, rfl⟩
  · exact k_La_takeXc l hst D g ad G M F N0 c0 fr m0 h
  · have hq := hgk j hj
    rcases aw_buf fr m0 with h | rfl | ⟨k, mm, rfl, rfl, h0, hk⟩
    · exact k_La_takeXb l hst D g ad G M F N0 j fr m0 hj h
    · by_cases h5 : (G j).1 = 3 ∧ (G j).2 = 5
      · exact k_La_take10 l hst D g ad G M F N0 j fr hj h5
      · exact k_La_takeXs0 l hst D g ad G M F N0 j fr hj (by omega)
    · by_cases h5 : (G j).1 = 3 ∧ (G j).2 = 5
      · exact k_La_take11 l hst D g ad G M F N0 j k mm hj h0 hk h5
      · exact k_La_takeXs1 l hst D g ad G M F N0 j k mm hj h0 hk (by omega)
theorem k_La_feedJ (l : Launch) (hst : l.stackTraces = false) (D : va_G) (g : Nat → ClassId) (ad : Nat → Nat) (G M : Nat → Nat × Nat) (F : Int32) (N0 : Nat) (c0 bk fr m0 : Int32) (hgk : aw_gok G) : Met l y_La_feed ws_La_feed11 rm_La_feed11 (va_Pc ([.ref (aw_r ad 0), .int c0, .int bk, .int fr, .int m0, .ref (aw_o ad)] : List Value) (aw_B D g ad G M F N0)) (va_Qi (fun r (_ : Unit) => True) (fun (_ : Unit) t => aw_H D g ad G M F N0 t.heap) (aw_Z N0)) 1 6 (aw_Z N0) := by
  rcases aw_rng 4 (by decide) c0 with h | ⟨j, hj, rfl⟩
  · exact k_La_feedXc l hst D g ad G M F N0 c0 bk fr m0 h
  · have hq := hgk j hj
    rcases aw_buf fr m0 with h | rfl | ⟨k, mm, rfl, rfl, h0, hk⟩
    · exact k_La_feedXb l hst D g ad G M F N0 j bk fr m0 hj h
    · by_cases h3 : (G j).1 = 3
      · by_cases h5 : (G j).2 = 5
        · exact k_La_feedXs0 l hst D g ad G M F N0 j bk fr hj (by omega)
        · by_cases h1 : (G j).2 ≤ 1
          · exact k_La_feed10b l hst D g ad G M F N0 j bk fr hj h3 h1
          · exact k_La_feed10 l hst D g ad G M F N0 j bk fr hj h3 (by omega) (by omega)
      · exact k_La_feedXs0 l hst D g ad G M F N0 j bk fr hj (by omega)
    · by_cases h3 : (G j).1 = 3
      · by_cases h5 : (G j).2 = 5
        · exact k_La_feedXs1 l hst D g ad G M F N0 j bk k mm hj h0 hk (by omega)
        · by_cases h1 : (G j).2 ≤ 1
          · by_cases h8 : mm % 8 = 0
            · obtain ⟨q, rfl⟩ : ∃ q, mm = 8 * q := ⟨mm / 8, by omega⟩
              exact k_La_feed18 l hst D g ad G M F N0 j bk k q hj (by omega) hk h3 h1
            · exact k_La_feedXa l hst D g ad G M F N0 j bk k mm hj h0 hk h3 h1 h8
          · exact k_La_feed11 l hst D g ad G M F N0 j bk k mm hj h0 hk h3 (by omega) (by omega)
      · exact k_La_feedXs1 l hst D g ad G M F N0 j bk k mm hj h0 hk (by omega)
