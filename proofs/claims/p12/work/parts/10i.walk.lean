theorem k_Mo_blockJ (l : Launch) (D : va_G) (g : Nat → ClassId) (ad : Nat → Nat) (G M : Nat → Nat × Nat) (F : Int32) (N0 : Nat) (c0 bk : Int32) (b : Int64) (hgk : aw_gok M) : Met l y_Mo_block ws_Mo_block1 rm_Mo_block1 (va_Pc ([.ref (aw_m ad 0), .int c0, .int bk, .long b] : List Value) (aw_B D g ad G M F N0)) (va_Ql (fun r (_ : Unit) => True) (fun (_ : Unit) t => ∃ F' : Int32, aw_H D g ad G M F' N0 t.heap) (aw_Z N0)) 0 0 (aw_Z N0) := by
  rcases aw_rng 4 (by decide) c0 with h | ⟨j, hj, rfl⟩
  · exact k_Mo_blockXc l D g ad G M F N0 c0 bk b h
  · by_cases h2 : 2 ≤ (M j).1
    · exact k_Mo_block1 l D g ad G M F N0 j bk b hj h2
    · exact k_Mo_blockXs l D g ad G M F N0 j bk b hj (by omega)
theorem k_Mo_wordJ (l : Launch) (D : va_G) (g : Nat → ClassId) (ad : Nat → Nat) (G M : Nat → Nat × Nat) (F : Int32) (N0 : Nat) (c0 i : Int32) (hgk : aw_gok M) : Met l y_Mo_word ws_Mo_word1 rm_Mo_word1 (va_Pc ([.ref (aw_m ad 0), .int c0, .int i] : List Value) (aw_B D g ad G M F N0)) (va_Qi (fun r (_ : Unit) => True) (fun (_ : Unit) t => ∃ F' : Int32, aw_H D g ad G M F' N0 t.heap) (aw_Z N0)) 0 0 (aw_Z N0) := by
  rcases aw_rng 4 (by decide) c0 with h | ⟨j, hj, rfl⟩
  · exact k_Mo_wordXc l D g ad G M F N0 c0 i h
  · by_cases h2 : 2 ≤ (M j).1
    · exact k_Mo_word1 l D g ad G M F N0 j i hj h2
    · exact k_Mo_wordXs l D g ad G M F N0 j i hj (by omega)
theorem k_Mo_getJ (l : Launch) (D : va_G) (g : Nat → ClassId) (ad : Nat → Nat) (G M : Nat → Nat × Nat) (F : Int32) (N0 : Nat) (p0 : Int32) (hgk : aw_gok M) : Met l y_Mo_get ws_Mo_get1 rm_Mo_get1 (va_Pc ([.ref (aw_m ad 0), .int p0] : List Value) (aw_B D g ad G M F N0)) (va_Qi (fun r (_ : Unit) => True) (fun (_ : Unit) t => ∃ F' : Int32, aw_H D g ad G M F' N0 t.heap) (aw_Z N0)) 0 0 (aw_Z N0) := by
  rcases aw_rng 64 (by decide) p0 with h | ⟨k, hk, rfl⟩
  · exact k_Mo_getX l D g ad G M F N0 p0 (aw_bnd 63 (by decide) h)
  · exact k_Mo_get1 l D g ad G M F N0 k hk
theorem k_Mo_tagJ (l : Launch) (D : va_G) (g : Nat → ClassId) (ad : Nat → Nat) (G M : Nat → Nat × Nat) (F : Int32) (N0 : Nat) (c0 : Int32) (hgk : aw_gok M) : Met l y_Mo_tag ws_Mo_tag1 rm_Mo_tag1 (va_Pc ([.ref (aw_m ad 0), .int c0] : List Value) (aw_B D g ad G M F N0)) (va_Ql (fun r (_ : Unit) => True) (fun (_ : Unit) t => ∃ F' : Int32, aw_H D g ad G M F' N0 t.heap) (aw_Z N0)) 0 0 (aw_Z N0) := by
  rcases aw_rng 4 (by decide) c0 with h | ⟨j, hj, rfl⟩
  · exact k_Mo_tagXc l D g ad G M F N0 c0 h
  · have hq := hgk j hj
    by_cases h5 : (M j).1 = 3 ∧ (M j).2 = 5
    · exact k_Mo_tag1 l D g ad G M F N0 j hj h5
    · exact k_Mo_tagXs l D g ad G M F N0 j hj (by omega)
theorem k_Mo_takeJ (l : Launch) (D : va_G) (g : Nat → ClassId) (ad : Nat → Nat) (G M : Nat → Nat × Nat) (F : Int32) (N0 : Nat) (c0 fr m0 : Int32) (hgk : aw_gok M) : Met l y_Mo_take ws_Mo_take1 rm_Mo_take1 (va_Pc ([.ref (aw_m ad 0), .int c0, .int fr, .int m0] : List Value) (aw_B D g ad G M F N0)) (va_Qi (fun r (_ : Unit) => True) (fun (_ : Unit) t => ∃ F' : Int32, aw_H D g ad G M F' N0 t.heap) (aw_Z N0)) 0 0 (aw_Z N0) := by
  rcases aw_rng 4 (by decide) c0 with h | ⟨j, hj, rfl⟩
  · exact k_Mo_takeXc l D g ad G M F N0 c0 fr m0 h
  · have hq := hgk j hj
    rcases aw_part fr m0 with h | ⟨k, mm, rfl, rfl, hk⟩
    · exact k_Mo_takeXb l D g ad G M F N0 j fr m0 hj h
    · by_cases h5 : (M j).1 = 3 ∧ (M j).2 = 5
      · exact k_Mo_take1 l D g ad G M F N0 j k mm hj hk h5
      · exact k_Mo_takeXs l D g ad G M F N0 j k mm hj hk (by omega)
theorem k_Mo_feedJ (l : Launch) (D : va_G) (g : Nat → ClassId) (ad : Nat → Nat) (G M : Nat → Nat × Nat) (F : Int32) (N0 : Nat) (c0 bk fr m0 : Int32) (hgk : aw_gok M) : Met l y_Mo_feed ws_Mo_feed1 rm_Mo_feed1 (va_Pc ([.ref (aw_m ad 0), .int c0, .int bk, .int fr, .int m0] : List Value) (aw_B D g ad G M F N0)) (va_Qi (fun r (_ : Unit) => True) (fun (_ : Unit) t => ∃ F' : Int32, aw_H D g ad G M F' N0 t.heap) (aw_Z N0)) 0 0 (aw_Z N0) := by
  rcases aw_rng 4 (by decide) c0 with h | ⟨j, hj, rfl⟩
  · exact k_Mo_feedXc l D g ad G M F N0 c0 bk fr m0 h
  · have hq := hgk j hj
    rcases aw_part fr m0 with h | ⟨k, mm, rfl, rfl, hk⟩
    · exact k_Mo_feedXb l D g ad G M F N0 j bk fr m0 hj h
    · by_cases h3 : (M j).1 = 3
      · by_cases h5 : (M j).2 = 5
        · exact k_Mo_feedXs l D g ad G M F N0 j bk k mm hj hk (by omega)
        · by_cases h1 : (M j).2 ≤ 1
          · by_cases h8 : mm % 8 = 0
            · exact k_Mo_feed8 l D g ad G M F N0 j bk k mm hj hk h3 h1 h8
            · exact k_Mo_feedXa l D g ad G M F N0 j bk k mm hj hk h3 h1 h8
          · exact k_Mo_feed1 l D g ad G M F N0 j bk k mm hj hk h3 (by omega) (by omega)
      · exact k_Mo_feedXs l D g ad G M F N0 j bk k mm hj hk (by omega)
