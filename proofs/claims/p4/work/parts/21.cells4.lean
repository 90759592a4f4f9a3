def az_u1 {α : Type} (f : Nat → α) (k : Nat) (v : α) : Nat → α := fun i => if i = k then v else f i
def az_u2 {α : Type} (f : Nat → Nat → α) (j k : Nat) (v : α) : Nat → Nat → α := fun a b => if a = j ∧ b = k then v else f a b
def az_w (f : Nat → Nat → Nat → Int32) (j i k : Nat) (x : Int32) : Nat → Nat → Nat → Int32 := az_u2 f j i (upd (f j i) k x)
def az_v (f : Nat → Nat → Int32) (i k : Nat) (x : Int32) : Nat → Nat → Int32 := az_u1 f i (upd (f i) k x)
def az_vl (f : Nat → Nat → Int64) (i k : Nat) (x : Int64) : Nat → Nat → Int64 := az_u1 f i (vp_updL (f i) k x)
theorem az_w_r {f : Nat → Nat → Nat → Int32} {j i k : Nat} {x : Int32} : az_w f j i k x j i = upd (f j i) k x := by
  show (if j = j ∧ i = i then upd (f j i) k x else f j i) = _
  exact if_pos ⟨rfl, rfl⟩
theorem az_w_s {f : Nat → Nat → Nat → Int32} {j i k : Nat} {x : Int32} : az_w f j i k x j i k = x := by
  rw [az_w_r]
  exact pk_us
theorem az_w_k {f : Nat → Nat → Nat → Int32} {j i k c : Nat} {x : Int32} (h : c ≠ k) : az_w f j i k x j i c = f j i c := by
  rw [az_w_r]
  exact pk_un h
theorem az_w_i {f : Nat → Nat → Nat → Int32} {j i k a b : Nat} {x : Int32} (h : b ≠ i) : az_w f j i k x a b = f a b := by
  show (if a = j ∧ b = i then upd (f j i) k x else f a b) = _
  exact if_neg (fun z => h z.2)
theorem az_w_j {f : Nat → Nat → Nat → Int32} {j i k a : Nat} {x : Int32} (h : a ≠ j) : az_w f j i k x a = f a := by
  funext b
  show (if a = j ∧ b = i then upd (f j i) k x else f a b) = _
  exact if_neg (fun z => h z.1)
theorem az_v_r {f : Nat → Nat → Int32} {i k : Nat} {x : Int32} : az_v f i k x i = upd (f i) k x := by
  show (if i = i then upd (f i) k x else f i) = _
  exact if_pos rfl
theorem az_v_s {f : Nat → Nat → Int32} {i k : Nat} {x : Int32} : az_v f i k x i k = x := by
  rw [az_v_r]
  exact pk_us
theorem az_v_k {f : Nat → Nat → Int32} {i k c : Nat} {x : Int32} (h : c ≠ k) : az_v f i k x i c = f i c := by
  rw [az_v_r]
  exact pk_un h
theorem az_v_i {f : Nat → Nat → Int32} {i k b : Nat} {x : Int32} (h : b ≠ i) : az_v f i k x b = f b := by
  show (if b = i then upd (f i) k x else f b) = _
  exact if_neg h
theorem az_vl_r {f : Nat → Nat → Int64} {i k : Nat} {x : Int64} : az_vl f i k x i = vp_updL (f i) k x := by
  show (if i = i then vp_updL (f i) k x else f i) = _
  exact if_pos rfl
theorem az_vl_s {f : Nat → Nat → Int64} {i k : Nat} {x : Int64} : az_vl f i k x i k = x := by
  rw [az_vl_r]
  exact if_pos rfl
theorem az_vl_k {f : Nat → Nat → Int64} {i k c : Nat} {x : Int64} (h : c ≠ k) : az_vl f i k x i c = f i c := by
  rw [az_vl_r]
  exact if_neg h
theorem az_vl_i {f : Nat → Nat → Int64} {i k b : Nat} {x : Int64} (h : b ≠ i) : az_vl f i k x b = f b := by
  show (if b = i then vp_updL (f i) k x else f b) = _
  exact if_neg h
def az_shC (g : Nat → ClassId) (ad : Nat → Nat) (zG : Nat → Nat × Nat) (zO : Nat → Nat) (zX : Nat → Nat → Int64) (zY : Nat → Nat → Int32) (zA : Nat → Nat → Nat → Int32) (j : Nat) : Nat → va_E → Prop
  | 0, e => aw_cof (zO j) ∧ e = .inr (1, [.ref (aw_c ad j 1), .ref (aw_c ad j 15), .int (nI (zG j).1), .int (nI (zG j).2), .ref (aw_c ad j (zO j)), .long (zX j 0), .long (zX j 1), .long (zX j 2), .int (zY j 0), .int (zY j 1)])
  | 1, e => ∃ f : Nat → Option Nat, (f 0 = some (aw_c ad j 2) ∧ f 1 = some (aw_c ad j 5) ∧ f 2 = some (aw_c ad j 7) ∧ f 3 = some (aw_c ad j 10) ∧ f 4 = some (aw_c ad j 12)) ∧ e = .inl (g 2, 5, .inr (.inr (.inr (.inr f))))
  | 2, e => e = .inr (3, [.ref (aw_c ad j 3), .ref (aw_c ad j 4)])
  | 3, e => e = .inl (g 0, 26, .inl (zA j 3))
  | 4, e => e = .inl (g 0, 4, .inl (zA j 4))
  | 5, e => e = .inr (4, [.ref (aw_c ad j 6)])
  | 6, e => e = .inl (g 0, 4, .inl (zA j 6))
  | 7, e => e = .inr (5, [.ref (aw_c ad j 8), .ref (aw_c ad j 9)])
  | 8, e => e = .inl (g 0, 27, .inl (zA j 8))
  | 9, e => e = .inl (g 0, 3, .inl (zA j 9))
  | 10, e => e = .inr (6, [.ref (aw_c ad j 11)])
  | 11, e => e = .inl (g 0, 44, .inl (zA j 11))
  | 12, e => e = .inr (7, [.ref (aw_c ad j 13), .ref (aw_c ad j 14)])
  | 13, e => e = .inl (g 0, 52, .inl (zA j 13))
  | 14, e => e = .inl (g 0, 52, .inl (zA j 14))
  | _, e => e = .inr (2, [.int (zY j 2), .long (zX j 3), .long (zX j 4), .int (zY j 3)])
def az_shR (g : Nat → ClassId) (ad : Nat → Nat) (zB : Nat → Int32) : Nat → va_E → Prop
  | 0, e => e = .inr (0, [.ref (aw_r ad 1), .ref (aw_r ad 2)])
  | 1, e => ∃ f : Nat → Option Nat, (∀ k, k < 4 → f k = some (aw_c ad k 0)) ∧ e = .inl (g 3, 4, .inr (.inr (.inr (.inr f))))
  | _, e => e = .inl (g 0, 64, .inl zB)
def az_shM (g : Nat → ClassId) (ad : Nat → Nat) (zM : Nat → Nat × Nat) (zI : Nat → Nat → Int32) (zL : Nat → Nat → Int64) (zK : Int32) (zN : Nat) (zF : Int32) : Nat → va_E → Prop
  | 0, e => zN ≤ 52 ∧ e = .inr (8, [.int zF, .ref (aw_m ad 1), .ref (aw_m ad 2), .ref (aw_m ad 3), .ref (aw_m ad 4), .ref (aw_m ad 5), .ref (aw_m ad 6), .ref (aw_m ad 7), .ref (aw_m ad 8), .ref (aw_m ad 9), .ref (aw_m ad 10), .ref (aw_m ad 11), .ref (aw_m ad 12), .ref (aw_m ad 13), .ref (aw_m ad 14), .int zK, .int (nI zN), .ref (aw_m ad 15), .ref (aw_m ad 16)])
  | 1, e => e = .inl (g 0, 64, .inl (zI 1))
  | 2, e => (∀ k, k < 4 → zI 2 k = nI (zM k).1) ∧ e = .inl (g 0, 4, .inl (zI 2))
  | 3, e => e = .inl (g 0, 4, .inl (zI 3))
  | 4, e => e = .inl (g 1, 4, .inr (.inl (zL 4)))
  | 5, e => e = .inl (g 1, 4, .inr (.inl (zL 5)))
  | 6, e => (∀ k, k < 4 → zI 6 k = nI (zM k).2) ∧ e = .inl (g 0, 4, .inl (zI 6))
  | 7, e => e = .inl (g 1, 4, .inr (.inl (zL 7)))
  | 8, e => e = .inl (g 1, 4, .inr (.inl (zL 8)))
  | 9, e => e = .inl (g 0, 4, .inl (zI 9))
  | 10, e => e = .inl (g 0, 4, .inl (zI 10))
  | 11, e => e = .inl (g 0, 4, .inl (zI 11))
  | 12, e => e = .inl (g 1, 4, .inr (.inl (zL 12)))
  | 13, e => e = .inl (g 1, 4, .inr (.inl (zL 13)))
  | 14, e => e = .inl (g 0, 4, .inl (zI 14))
  | 15, e => e = .inl (g 0, 52, .inl (zI 15))
  | _, e => e = .inl (g 0, 32, .inl (zI 16))
def az_Sh (g : Nat → ClassId) (ad : Nat → Nat) (zG : Nat → Nat × Nat) (zO : Nat → Nat) (zX : Nat → Nat → Int64) (zY : Nat → Nat → Int32) (zA : Nat → Nat → Nat → Int32) (zB : Nat → Int32) (zM : Nat → Nat × Nat) (zI : Nat → Nat → Int32) (zL : Nat → Nat → Int64) (zK : Int32) (zN : Nat) (zF : Int32) (zQ : Int64) (L : va_W) : Prop :=
  (∀ j i, j < 4 → i < 16 → ∃ e, L[3 + 16 * j + i]? = some (aw_c ad j i, e) ∧ az_shC g ad zG zO zX zY zA j i e) ∧
  (∀ i, i < 3 → ∃ e, L[i]? = some (aw_r ad i, e) ∧ az_shR g ad zB i e) ∧
  (∀ i, i < 17 → ∃ e, L[67 + i]? = some (aw_m ad i, e) ∧ az_shM g ad zM zI zL zK zN zF i e) ∧
  (∃ f : Nat → Int64, f 0 = zQ ∧ L[84]? = some (aw_o ad, .inl (g 1, 1, .inr (.inl f)))) ∧ aw_gok zG ∧ aw_gok zM
theorem az_setC {g : Nat → ClassId} {ad : Nat → Nat} {zG : Nat → Nat × Nat} {zO : Nat → Nat} {zX : Nat → Nat → Int64} {zY : Nat → Nat → Int32} {zA : Nat → Nat → Nat → Int32} {zB : Nat → Int32} {zM : Nat → Nat × Nat} {zI : Nat → Nat → Int32} {zL : Nat → Nat → Int64} {zK : Int32} {zN : Nat} {zF : Int32} {zQ : Int64} {L : va_W} {zG' : Nat → Nat × Nat} {zO' : Nat → Nat} {zX' : Nat → Nat → Int64} {zY' : Nat → Nat → Int32} {zA' : Nat → Nat → Nat → Int32} (h : az_Sh g ad zG zO zX zY zA zB zM zI zL zK zN zF zQ L) {j i : Nat} {e : va_E} (hj : j < 4) (hi : i < 16) (he : az_shC g ad zG' zO' zX' zY' zA' j i e) (hk : ∀ k q e, q < 16 → ¬ (k = j ∧ q = i) → az_shC g ad zG zO zX zY zA k q e → az_shC g ad zG' zO' zX' zY' zA' k q e) (hg : aw_gok zG') : az_Sh g ad zG' zO' zX' zY' zA' zB zM zI zL zK zN zF zQ (L.set (3 + 16 * j + i) (aw_c ad j i, e)) := by
  obtain ⟨h1, h2, h3, ⟨f, h40, h4⟩, h5, h6⟩ := h
  obtain ⟨e0, hL0, hs0⟩ := h1 j i hj hi
  refine ⟨fun k q hk9 hq => ?_, fun q hq => ?_, fun q hq => ?_, ⟨f, h40, aw_gs h4 (by omega)⟩, hg, h6⟩
  · by_cases hkq : k = j ∧ q = i
    · obtain ⟨rfl, rfl⟩ := hkq
      exact ⟨e, aw_gS hL0, he⟩
    · obtain ⟨e1, hL1, hs1⟩ := h1 k q hk9 hq
      exact ⟨e1, aw_gs hL1 (by omega), hk k q e1 hq hkq hs1⟩
  · obtain ⟨e1, hL1, hs1⟩ := h2 q hq
    exact ⟨e1, aw_gs hL1 (by omega), hs1⟩
  · obtain ⟨e1, hL1, hs1⟩ := h3 q hq
    exact ⟨e1, aw_gs hL1 (by omega), hs1⟩
theorem az_setM {g : Nat → ClassId} {ad : Nat → Nat} {zG : Nat → Nat × Nat} {zO : Nat → Nat} {zX : Nat → Nat → Int64} {zY : Nat → Nat → Int32} {zA : Nat → Nat → Nat → Int32} {zB : Nat → Int32} {zM : Nat → Nat × Nat} {zI : Nat → Nat → Int32} {zL : Nat → Nat → Int64} {zK : Int32} {zN : Nat} {zF : Int32} {zQ : Int64} {L : va_W} {zM' : Nat → Nat × Nat} {zI' : Nat → Nat → Int32} {zL' : Nat → Nat → Int64} {zK' : Int32} {zN' : Nat} {zF' : Int32} (h : az_Sh g ad zG zO zX zY zA zB zM zI zL zK zN zF zQ L) {i : Nat} {e : va_E} (hi : i < 17) (he : az_shM g ad zM' zI' zL' zK' zN' zF' i e) (hk : ∀ q e, q < 17 → q ≠ i → az_shM g ad zM zI zL zK zN zF q e → az_shM g ad zM' zI' zL' zK' zN' zF' q e) (hg : aw_gok zM') : az_Sh g ad zG zO zX zY zA zB zM' zI' zL' zK' zN' zF' zQ (L.set (67 + i) (aw_m ad i, e)) := by
  obtain ⟨h1, h2, h3, ⟨f, h40, h4⟩, h5, h6⟩ := h
  obtain ⟨e0, hL0, hs0⟩ := h3 i hi
  refine ⟨fun k q hk9 hq => ?_, fun q hq => ?_, fun q hq => ?_, ⟨f, h40, aw_gs h4 (by omega)⟩, h5, hg⟩
  · obtain ⟨e1, hL1, hs1⟩ := h1 k q hk9 hq
    exact ⟨e1, aw_gs hL1 (by omega), hs1⟩
  · obtain ⟨e1, hL1, hs1⟩ := h2 q hq
    exact ⟨e1, aw_gs hL1 (by omega), hs1⟩
  · by_cases hqi : q = i
    · subst hqi
      exact ⟨e, aw_gS hL0, he⟩
    · obtain ⟨e1, hL1, hs1⟩ := h3 q hq
      exact ⟨e1, aw_gs hL1 (by omega), hk q e1 hq hqi hs1⟩
theorem az_setB {g : Nat → ClassId} {ad : Nat → Nat} {zG : Nat → Nat × Nat} {zO : Nat → Nat} {zX : Nat → Nat → Int64} {zY : Nat → Nat → Int32} {zA : Nat → Nat → Nat → Int32} {zB : Nat → Int32} {zM : Nat → Nat × Nat} {zI : Nat → Nat → Int32} {zL : Nat → Nat → Int64} {zK : Int32} {zN : Nat} {zF : Int32} {zQ : Int64} {L : va_W} (h : az_Sh g ad zG zO zX zY zA zB zM zI zL zK zN zF zQ L) (f9 : Nat → Int32) : az_Sh g ad zG zO zX zY zA (f9) zM zI zL zK zN zF zQ (L.set 2 (aw_r ad 2, .inl (g 0, 64, .inl f9))) := by
  obtain ⟨h1, h2, h3, ⟨f, h40, h4⟩, h5⟩ := h
  obtain ⟨e0, hL0, hs0⟩ := h2 2 (by decide)
  refine ⟨fun k q hk9 hq => ?_, fun q hq => ?_, fun q hq => ?_, ⟨f, h40, aw_gs h4 (by omega)⟩, h5⟩
  · obtain ⟨e1, hL1, hs1⟩ := h1 k q hk9 hq
    exact ⟨e1, aw_gs hL1 (by omega), hs1⟩
  · obtain ⟨e1, hL1, hs1⟩ := h2 q hq
    rcases (by omega : q = 0 ∨ q = 1 ∨ q = 2) with rfl | rfl | rfl
    · exact ⟨e1, aw_gs hL1 (by omega), hs1⟩
    · exact ⟨e1, aw_gs hL1 (by omega), hs1⟩
    · exact ⟨_, aw_gS hL0, rfl⟩
  · obtain ⟨e1, hL1, hs1⟩ := h3 q hq
    exact ⟨e1, aw_gs hL1 (by omega), hs1⟩
theorem az_setQ {g : Nat → ClassId} {ad : Nat → Nat} {zG : Nat → Nat × Nat} {zO : Nat → Nat} {zX : Nat → Nat → Int64} {zY : Nat → Nat → Int32} {zA : Nat → Nat → Nat → Int32} {zB : Nat → Int32} {zM : Nat → Nat × Nat} {zI : Nat → Nat → Int32} {zL : Nat → Nat → Int64} {zK : Int32} {zN : Nat} {zF : Int32} {zQ : Int64} {L : va_W} (h : az_Sh g ad zG zO zX zY zA zB zM zI zL zK zN zF zQ L) (f9 : Nat → Int64) : az_Sh g ad zG zO zX zY zA zB zM zI zL zK zN zF (f9 0) (L.set 84 (aw_o ad, .inl (g 1, 1, .inr (.inl f9)))) := by
  obtain ⟨h1, h2, h3, ⟨f, h40, h4⟩, h5⟩ := h
  refine ⟨fun k q hk9 hq => ?_, fun q hq => ?_, fun q hq => ?_, ⟨f9, rfl, aw_gS h4⟩, h5⟩
  · obtain ⟨e1, hL1, hs1⟩ := h1 k q hk9 hq
    exact ⟨e1, aw_gs hL1 (by omega), hs1⟩
  · obtain ⟨e1, hL1, hs1⟩ := h2 q hq
    exact ⟨e1, aw_gs hL1 (by omega), hs1⟩
  · obtain ⟨e1, hL1, hs1⟩ := h3 q hq
    exact ⟨e1, aw_gs hL1 (by omega), hs1⟩
theorem az_kA3 {g : Nat → ClassId} {ad : Nat → Nat} {zG : Nat → Nat × Nat} {zO : Nat → Nat} {zX : Nat → Nat → Int64} {zY : Nat → Nat → Int32} {zA : Nat → Nat → Nat → Int32} {j : Nat} {f : Nat → Int32} : ∀ k q e, q < 16 → ¬ (k = j ∧ q = 3) → az_shC g ad zG zO zX zY zA k q e → az_shC g ad zG zO zX zY (az_u2 zA j 3 f) k q e := by
  intro k q e hq h hs
  match q, hq, h, hs with
  | 0, hq, h, hs => exact hs
  | 1, hq, h, hs => exact hs
  | 2, hq, h, hs => exact hs
  | 3, hq, h, hs =>
    have r0 : az_u2 zA j 3 f k 3 = zA k 3 := if_neg (fun z => h ⟨z.1, rfl⟩)
    have hs : e = .inl (g 0, 26, .inl (zA k 3)) := hs
    rw [← r0] at hs
    exact hs
  | 4, hq, h, hs =>
    have r0 : az_u2 zA j 3 f k 4 = zA k 4 := if_neg (fun z => absurd z.2 (by decide))
    have hs : e = .inl (g 0, 4, .inl (zA k 4)) := hs
    rw [← r0] at hs
    exact hs
  | 5, hq, h, hs => exact hs
  | 6, hq, h, hs =>
    have r0 : az_u2 zA j 3 f k 6 = zA k 6 := if_neg (fun z => absurd z.2 (by decide))
    have hs : e = .inl (g 0, 4, .inl (zA k 6)) := hs
    rw [← r0] at hs
    exact hs
  | 7, hq, h, hs => exact hs
  | 8, hq, h, hs =>
    have r0 : az_u2 zA j 3 f k 8 = zA k 8 := if_neg (fun z => absurd z.2 (by decide))
    have hs : e = .inl (g 0, 27, .inl (zA k 8)) := hs
    rw [← r0] at hs
    exact hs
  | 9, hq, h, hs =>
    have r0 : az_u2 zA j 3 f k 9 = zA k 9 := if_neg (fun z => absurd z.2 (by decide))
    have hs : e = .inl (g 0, 3, .inl (zA k 9)) := hs
    rw [← r0] at hs
    exact hs
  | 10, hq, h, hs => exact hs
  | 11, hq, h, hs =>
    have r0 : az_u2 zA j 3 f k 11 = zA k 11 := if_neg (fun z => absurd z.2 (by decide))
    have hs : e = .inl (g 0, 44, .inl (zA k 11)) := hs
    rw [← r0] at hs
    exact hs
  | 12, hq, h, hs => exact hs
  | 13, hq, h, hs =>
    have r0 : az_u2 zA j 3 f k 13 = zA k 13 := if_neg (fun z => absurd z.2 (by decide))
    have hs : e = .inl (g 0, 52, .inl (zA k 13)) := hs
    rw [← r0] at hs
    exact hs
  | 14, hq, h, hs =>
    have r0 : az_u2 zA j 3 f k 14 = zA k 14 := if_neg (fun z => absurd z.2 (by decide))
    have hs : e = .inl (g 0, 52, .inl (zA k 14)) := hs
    rw [← r0] at hs
    exact hs
  | n + 15, hq, h, hs => exact hs
theorem az_kA4 {g : Nat → ClassId} {ad : Nat → Nat} {zG : Nat → Nat × Nat} {zO : Nat → Nat} {zX : Nat → Nat → Int64} {zY : Nat → Nat → Int32} {zA : Nat → Nat → Nat → Int32} {j : Nat} {f : Nat → Int32} : ∀ k q e, q < 16 → ¬ (k = j ∧ q = 4) → az_shC g ad zG zO zX zY zA k q e → az_shC g ad zG zO zX zY (az_u2 zA j 4 f) k q e := by
  intro k q e hq h hs
  match q, hq, h, hs with
  | 0, hq, h, hs => exact hs
  | 1, hq, h, hs => exact hs
  | 2, hq, h, hs => exact hs
  | 3, hq, h, hs =>
    have r0 : az_u2 zA j 4 f k 3 = zA k 3 := if_neg (fun z => absurd z.2 (by decide))
    have hs : e = .inl (g 0, 26, .inl (zA k 3)) := hs
    rw [← r0] at hs
    exact hs
  | 4, hq, h, hs =>
    have r0 : az_u2 zA j 4 f k 4 = zA k 4 := if_neg (fun z => h ⟨z.1, rfl⟩)
    have hs : e = .inl (g 0, 4, .inl (zA k 4)) := hs
    rw [← r0] at hs
    exact hs
  | 5, hq, h, hs => exact hs
  | 6, hq, h, hs =>
    have r0 : az_u2 zA j 4 f k 6 = zA k 6 := if_neg (fun z => absurd z.2 (by decide))
    have hs : e = .inl (g 0, 4, .inl (zA k 6)) := hs
    rw [← r0] at hs
    exact hs
  | 7, hq, h, hs => exact hs
  | 8, hq, h, hs =>
    have r0 : az_u2 zA j 4 f k 8 = zA k 8 := if_neg (fun z => absurd z.2 (by decide))
    have hs : e = .inl (g 0, 27, .inl (zA k 8)) := hs
    rw [← r0] at hs
    exact hs
  | 9, hq, h, hs =>
    have r0 : az_u2 zA j 4 f k 9 = zA k 9 := if_neg (fun z => absurd z.2 (by decide))
    have hs : e = .inl (g 0, 3, .inl (zA k 9)) := hs
    rw [← r0] at hs
    exact hs
  | 10, hq, h, hs => exact hs
  | 11, hq, h, hs =>
    have r0 : az_u2 zA j 4 f k 11 = zA k 11 := if_neg (fun z => absurd z.2 (by decide))
    have hs : e = .inl (g 0, 44, .inl (zA k 11)) := hs
    rw [← r0] at hs
    exact hs
  | 12, hq, h, hs => exact hs
  | 13, hq, h, hs =>
    have r0 : az_u2 zA j 4 f k 13 = zA k 13 := if_neg (fun z => absurd z.2 (by decide))
    have hs : e = .inl (g 0, 52, .inl (zA k 13)) := hs
    rw [← r0] at hs
    exact hs
  | 14, hq, h, hs =>
    have r0 : az_u2 zA j 4 f k 14 = zA k 14 := if_neg (fun z => absurd z.2 (by decide))
    have hs : e = .inl (g 0, 52, .inl (zA k 14)) := hs
    rw [← r0] at hs
    exact hs
  | n + 15, hq, h, hs => exact hs
theorem az_kA6 {g : Nat → ClassId} {ad : Nat → Nat} {zG : Nat → Nat × Nat} {zO : Nat → Nat} {zX : Nat → Nat → Int64} {zY : Nat → Nat → Int32} {zA : Nat → Nat → Nat → Int32} {j : Nat} {f : Nat → Int32} : ∀ k q e, q < 16 → ¬ (k = j ∧ q = 6) → az_shC g ad zG zO zX zY zA k q e → az_shC g ad zG zO zX zY (az_u2 zA j 6 f) k q e := by
  intro k q e hq h hs
  match q, hq, h, hs with
  | 0, hq, h, hs => exact hs
  | 1, hq, h, hs => exact hs
  | 2, hq, h, hs => exact hs
  | 3, hq, h, hs =>
    have r0 : az_u2 zA j 6 f k 3 = zA k 3 := if_neg (fun z => absurd z.2 (by decide))
    have hs : e = .inl (g 0, 26, .inl (zA k 3)) := hs
    rw [← r0] at hs
    exact hs
  | 4, hq, h, hs =>
    have r0 : az_u2 zA j 6 f k 4 = zA k 4 := if_neg (fun z => absurd z.2 (by decide))
    have hs : e = .inl (g 0, 4, .inl (zA k 4)) := hs
    rw [← r0] at hs
    exact hs
  | 5, hq, h, hs => exact hs
  | 6, hq, h, hs =>
    have r0 : az_u2 zA j 6 f k 6 = zA k 6 := if_neg (fun z => h ⟨z.1, rfl⟩)
    have hs : e = .inl (g 0, 4, .inl (zA k 6)) := hs
    rw [← r0] at hs
    exact hs
  | 7, hq, h, hs => exact hs
  | 8, hq, h, hs =>
    have r0 : az_u2 zA j 6 f k 8 = zA k 8 := if_neg (fun z => absurd z.2 (by decide))
    have hs : e = .inl (g 0, 27, .inl (zA k 8)) := hs
    rw [← r0] at hs
    exact hs
  | 9, hq, h, hs =>
    have r0 : az_u2 zA j 6 f k 9 = zA k 9 := if_neg (fun z => absurd z.2 (by decide))
    have hs : e = .inl (g 0, 3, .inl (zA k 9)) := hs
    rw [← r0] at hs
    exact hs
  | 10, hq, h, hs => exact hs
  | 11, hq, h, hs =>
    have r0 : az_u2 zA j 6 f k 11 = zA k 11 := if_neg (fun z => absurd z.2 (by decide))
    have hs : e = .inl (g 0, 44, .inl (zA k 11)) := hs
    rw [← r0] at hs
    exact hs
  | 12, hq, h, hs => exact hs
  | 13, hq, h, hs =>
    have r0 : az_u2 zA j 6 f k 13 = zA k 13 := if_neg (fun z => absurd z.2 (by decide))
    have hs : e = .inl (g 0, 52, .inl (zA k 13)) := hs
    rw [← r0] at hs
    exact hs
  | 14, hq, h, hs =>
    have r0 : az_u2 zA j 6 f k 14 = zA k 14 := if_neg (fun z => absurd z.2 (by decide))
    have hs : e = .inl (g 0, 52, .inl (zA k 14)) := hs
    rw [← r0] at hs
    exact hs
  | n + 15, hq, h, hs => exact hs
theorem az_kA8 {g : Nat → ClassId} {ad : Nat → Nat} {zG : Nat → Nat × Nat} {zO : Nat → Nat} {zX : Nat → Nat → Int64} {zY : Nat → Nat → Int32} {zA : Nat → Nat → Nat → Int32} {j : Nat} {f : Nat → Int32} : ∀ k q e, q < 16 → ¬ (k = j ∧ q = 8) → az_shC g ad zG zO zX zY zA k q e → az_shC g ad zG zO zX zY (az_u2 zA j 8 f) k q e := by
  intro k q e hq h hs
  match q, hq, h, hs with
  | 0, hq, h, hs => exact hs
  | 1, hq, h, hs => exact hs
  | 2, hq, h, hs => exact hs
  | 3, hq, h, hs =>
    have r0 : az_u2 zA j 8 f k 3 = zA k 3 := if_neg (fun z => absurd z.2 (by decide))
    have hs : e = .inl (g 0, 26, .inl (zA k 3)) := hs
    rw [← r0] at hs
    exact hs
  | 4, hq, h, hs =>
    have r0 : az_u2 zA j 8 f k 4 = zA k 4 := if_neg (fun z => absurd z.2 (by decide))
    have hs : e = .inl (g 0, 4, .inl (zA k 4)) := hs
    rw [← r0] at hs
    exact hs
  | 5, hq, h, hs => exact hs
  | 6, hq, h, hs =>
    have r0 : az_u2 zA j 8 f k 6 = zA k 6 := if_neg (fun z => absurd z.2 (by decide))
    have hs : e = .inl (g 0, 4, .inl (zA k 6)) := hs
    rw [← r0] at hs
    exact hs
  | 7, hq, h, hs => exact hs
  | 8, hq, h, hs =>
    have r0 : az_u2 zA j 8 f k 8 = zA k 8 := if_neg (fun z => h ⟨z.1, rfl⟩)
    have hs : e = .inl (g 0, 27, .inl (zA k 8)) := hs
    rw [← r0] at hs
    exact hs
  | 9, hq, h, hs =>
    have r0 : az_u2 zA j 8 f k 9 = zA k 9 := if_neg (fun z => absurd z.2 (by decide))
    have hs : e = .inl (g 0, 3, .inl (zA k 9)) := hs
    rw [← r0] at hs
    exact hs
  | 10, hq, h, hs => exact hs
  | 11, hq, h, hs =>
    have r0 : az_u2 zA j 8 f k 11 = zA k 11 := if_neg (fun z => absurd z.2 (by decide))
    have hs : e = .inl (g 0, 44, .inl (zA k 11)) := hs
    rw [← r0] at hs
    exact hs
  | 12, hq, h, hs => exact hs
  | 13, hq, h, hs =>
    have r0 : az_u2 zA j 8 f k 13 = zA k 13 := if_neg (fun z => absurd z.2 (by decide))
    have hs : e = .inl (g 0, 52, .inl (zA k 13)) := hs
    rw [← r0] at hs
    exact hs
  | 14, hq, h, hs =>
    have r0 : az_u2 zA j 8 f k 14 = zA k 14 := if_neg (fun z => absurd z.2 (by decide))
    have hs : e = .inl (g 0, 52, .inl (zA k 14)) := hs
    rw [← r0] at hs
    exact hs
  | n + 15, hq, h, hs => exact hs
theorem az_kA9 {g : Nat → ClassId} {ad : Nat → Nat} {zG : Nat → Nat × Nat} {zO : Nat → Nat} {zX : Nat → Nat → Int64} {zY : Nat → Nat → Int32} {zA : Nat → Nat → Nat → Int32} {j : Nat} {f : Nat → Int32} : ∀ k q e, q < 16 → ¬ (k = j ∧ q = 9) → az_shC g ad zG zO zX zY zA k q e → az_shC g ad zG zO zX zY (az_u2 zA j 9 f) k q e := by
  intro k q e hq h hs
  match q, hq, h, hs with
  | 0, hq, h, hs => exact hs
  | 1, hq, h, hs => exact hs
  | 2, hq, h, hs => exact hs
  | 3, hq, h, hs =>
    have r0 : az_u2 zA j 9 f k 3 = zA k 3 := if_neg (fun z => absurd z.2 (by decide))
    have hs : e = .inl (g 0, 26, .inl (zA k 3)) := hs
    rw [← r0] at hs
    exact hs
  | 4, hq, h, hs =>
    have r0 : az_u2 zA j 9 f k 4 = zA k 4 := if_neg (fun z => absurd z.2 (by decide))
    have hs : e = .inl (g 0, 4, .inl (zA k 4)) := hs
    rw [← r0] at hs
    exact hs
  | 5, hq, h, hs => exact hs
  | 6, hq, h, hs =>
    have r0 : az_u2 zA j 9 f k 6 = zA k 6 := if_neg (fun z => absurd z.2 (by decide))
    have hs : e = .inl (g 0, 4, .inl (zA k 6)) := hs
    rw [← r0] at hs
    exact hs
  | 7, hq, h, hs => exact hs
  | 8, hq, h, hs =>
    have r0 : az_u2 zA j 9 f k 8 = zA k 8 := if_neg (fun z => absurd z.2 (by decide))
    have hs : e = .inl (g 0, 27, .inl (zA k 8)) := hs
    rw [← r0] at hs
    exact hs
  | 9, hq, h, hs =>
    have r0 : az_u2 zA j 9 f k 9 = zA k 9 := if_neg (fun z => h ⟨z.1, rfl⟩)
    have hs : e = .inl (g 0, 3, .inl (zA k 9)) := hs
    rw [← r0] at hs
    exact hs
  | 10, hq, h, hs => exact hs
  | 11, hq, h, hs =>
    have r0 : az_u2 zA j 9 f k 11 = zA k 11 := if_neg (fun z => absurd z.2 (by decide))
    have hs : e = .inl (g 0, 44, .inl (zA k 11)) := hs
    rw [← r0] at hs
    exact hs
  | 12, hq, h, hs => exact hs
  | 13, hq, h, hs =>
    have r0 : az_u2 zA j 9 f k 13 = zA k 13 := if_neg (fun z => absurd z.2 (by decide))
    have hs : e = .inl (g 0, 52, .inl (zA k 13)) := hs
    rw [← r0] at hs
    exact hs
  | 14, hq, h, hs =>
    have r0 : az_u2 zA j 9 f k 14 = zA k 14 := if_neg (fun z => absurd z.2 (by decide))
    have hs : e = .inl (g 0, 52, .inl (zA k 14)) := hs
    rw [← r0] at hs
    exact hs
  | n + 15, hq, h, hs => exact hs
theorem az_kA11 {g : Nat → ClassId} {ad : Nat → Nat} {zG : Nat → Nat × Nat} {zO : Nat → Nat} {zX : Nat → Nat → Int64} {zY : Nat → Nat → Int32} {zA : Nat → Nat → Nat → Int32} {j : Nat} {f : Nat → Int32} : ∀ k q e, q < 16 → ¬ (k = j ∧ q = 11) → az_shC g ad zG zO zX zY zA k q e → az_shC g ad zG zO zX zY (az_u2 zA j 11 f) k q e := by
  intro k q e hq h hs
  match q, hq, h, hs with
  | 0, hq, h, hs => exact hs
  | 1, hq, h, hs => exact hs
  | 2, hq, h, hs => exact hs
  | 3, hq, h, hs =>
    have r0 : az_u2 zA j 11 f k 3 = zA k 3 := if_neg (fun z => absurd z.2 (by decide))
    have hs : e = .inl (g 0, 26, .inl (zA k 3)) := hs
    rw [← r0] at hs
    exact hs
  | 4, hq, h, hs =>
    have r0 : az_u2 zA j 11 f k 4 = zA k 4 := if_neg (fun z => absurd z.2 (by decide))
    have hs : e = .inl (g 0, 4, .inl (zA k 4)) := hs
    rw [← r0] at hs
    exact hs
  | 5, hq, h, hs => exact hs
  | 6, hq, h, hs =>
    have r0 : az_u2 zA j 11 f k 6 = zA k 6 := if_neg (fun z => absurd z.2 (by decide))
    have hs : e = .inl (g 0, 4, .inl (zA k 6)) := hs
    rw [← r0] at hs
    exact hs
  | 7, hq, h, hs => exact hs
  | 8, hq, h, hs =>
    have r0 : az_u2 zA j 11 f k 8 = zA k 8 := if_neg (fun z => absurd z.2 (by decide))
    have hs : e = .inl (g 0, 27, .inl (zA k 8)) := hs
    rw [← r0] at hs
    exact hs
  | 9, hq, h, hs =>
    have r0 : az_u2 zA j 11 f k 9 = zA k 9 := if_neg (fun z => absurd z.2 (by decide))
    have hs : e = .inl (g 0, 3, .inl (zA k 9)) := hs
    rw [← r0] at hs
    exact hs
  | 10, hq, h, hs => exact hs
  | 11, hq, h, hs =>
    have r0 : az_u2 zA j 11 f k 11 = zA k 11 := if_neg (fun z => h ⟨z.1, rfl⟩)
    have hs : e = .inl (g 0, 44, .inl (zA k 11)) := hs
    rw [← r0] at hs
    exact hs
  | 12, hq, h, hs => exact hs
  | 13, hq, h, hs =>
    have r0 : az_u2 zA j 11 f k 13 = zA k 13 := if_neg (fun z => absurd z.2 (by decide))
    have hs : e = .inl (g 0, 52, .inl (zA k 13)) := hs
    rw [← r0] at hs
    exact hs
  | 14, hq, h, hs =>
    have r0 : az_u2 zA j 11 f k 14 = zA k 14 := if_neg (fun z => absurd z.2 (by decide))
    have hs : e = .inl (g 0, 52, .inl (zA k 14)) := hs
    rw [← r0] at hs
    exact hs
  | n + 15, hq, h, hs => exact hs
theorem az_kA13 {g : Nat → ClassId} {ad : Nat → Nat} {zG : Nat → Nat × Nat} {zO : Nat → Nat} {zX : Nat → Nat → Int64} {zY : Nat → Nat → Int32} {zA : Nat → Nat → Nat → Int32} {j : Nat} {f : Nat → Int32} : ∀ k q e, q < 16 → ¬ (k = j ∧ q = 13) → az_shC g ad zG zO zX zY zA k q e → az_shC g ad zG zO zX zY (az_u2 zA j 13 f) k q e := by
  intro k q e hq h hs
  match q, hq, h, hs with
  | 0, hq, h, hs => exact hs
  | 1, hq, h, hs => exact hs
  | 2, hq, h, hs => exact hs
  | 3, hq, h, hs =>
    have r0 : az_u2 zA j 13 f k 3 = zA k 3 := if_neg (fun z => absurd z.2 (by decide))
    have hs : e = .inl (g 0, 26, .inl (zA k 3)) := hs
    rw [← r0] at hs
    exact hs
  | 4, hq, h, hs =>
    have r0 : az_u2 zA j 13 f k 4 = zA k 4 := if_neg (fun z => absurd z.2 (by decide))
    have hs : e = .inl (g 0, 4, .inl (zA k 4)) := hs
    rw [← r0] at hs
    exact hs
  | 5, hq, h, hs => exact hs
  | 6, hq, h, hs =>
    have r0 : az_u2 zA j 13 f k 6 = zA k 6 := if_neg (fun z => absurd z.2 (by decide))
    have hs : e = .inl (g 0, 4, .inl (zA k 6)) := hs
    rw [← r0] at hs
    exact hs
  | 7, hq, h, hs => exact hs
  | 8, hq, h, hs =>
    have r0 : az_u2 zA j 13 f k 8 = zA k 8 := if_neg (fun z => absurd z.2 (by decide))
    have hs : e = .inl (g 0, 27, .inl (zA k 8)) := hs
    rw [← r0] at hs
    exact hs
  | 9, hq, h, hs =>
    have r0 : az_u2 zA j 13 f k 9 = zA k 9 := if_neg (fun z => absurd z.2 (by decide))
    have hs : e = .inl (g 0, 3, .inl (zA k 9)) := hs
    rw [← r0] at hs
    exact hs
  | 10, hq, h, hs => exact hs
  | 11, hq, h, hs =>
    have r0 : az_u2 zA j 13 f k 11 = zA k 11 := if_neg (fun z => absurd z.2 (by decide))
    have hs : e = .inl (g 0, 44, .inl (zA k 11)) := hs
    rw [← r0] at hs
    exact hs
  | 12, hq, h, hs => exact hs
  | 13, hq, h, hs =>
    have r0 : az_u2 zA j 13 f k 13 = zA k 13 := if_neg (fun z => h ⟨z.1, rfl⟩)
    have hs : e = .inl (g 0, 52, .inl (zA k 13)) := hs
    rw [← r0] at hs
    exact hs
  | 14, hq, h, hs =>
    have r0 : az_u2 zA j 13 f k 14 = zA k 14 := if_neg (fun z => absurd z.2 (by decide))
    have hs : e = .inl (g 0, 52, .inl (zA k 14)) := hs
    rw [← r0] at hs
    exact hs
  | n + 15, hq, h, hs => exact hs
theorem az_kA14 {g : Nat → ClassId} {ad : Nat → Nat} {zG : Nat → Nat × Nat} {zO : Nat → Nat} {zX : Nat → Nat → Int64} {zY : Nat → Nat → Int32} {zA : Nat → Nat → Nat → Int32} {j : Nat} {f : Nat → Int32} : ∀ k q e, q < 16 → ¬ (k = j ∧ q = 14) → az_shC g ad zG zO zX zY zA k q e → az_shC g ad zG zO zX zY (az_u2 zA j 14 f) k q e := by
  intro k q e hq h hs
  match q, hq, h, hs with
  | 0, hq, h, hs => exact hs
  | 1, hq, h, hs => exact hs
  | 2, hq, h, hs => exact hs
  | 3, hq, h, hs =>
    have r0 : az_u2 zA j 14 f k 3 = zA k 3 := if_neg (fun z => absurd z.2 (by decide))
    have hs : e = .inl (g 0, 26, .inl (zA k 3)) := hs
    rw [← r0] at hs
    exact hs
  | 4, hq, h, hs =>
    have r0 : az_u2 zA j 14 f k 4 = zA k 4 := if_neg (fun z => absurd z.2 (by decide))
    have hs : e = .inl (g 0, 4, .inl (zA k 4)) := hs
    rw [← r0] at hs
    exact hs
  | 5, hq, h, hs => exact hs
  | 6, hq, h, hs =>
    have r0 : az_u2 zA j 14 f k 6 = zA k 6 := if_neg (fun z => absurd z.2 (by decide))
    have hs : e = .inl (g 0, 4, .inl (zA k 6)) := hs
    rw [← r0] at hs
    exact hs
  | 7, hq, h, hs => exact hs
  | 8, hq, h, hs =>
    have r0 : az_u2 zA j 14 f k 8 = zA k 8 := if_neg (fun z => absurd z.2 (by decide))
    have hs : e = .inl (g 0, 27, .inl (zA k 8)) := hs
    rw [← r0] at hs
    exact hs
  | 9, hq, h, hs =>
    have r0 : az_u2 zA j 14 f k 9 = zA k 9 := if_neg (fun z => absurd z.2 (by decide))
    have hs : e = .inl (g 0, 3, .inl (zA k 9)) := hs
    rw [← r0] at hs
    exact hs
  | 10, hq, h, hs => exact hs
  | 11, hq, h, hs =>
    have r0 : az_u2 zA j 14 f k 11 = zA k 11 := if_neg (fun z => absurd z.2 (by decide))
    have hs : e = .inl (g 0, 44, .inl (zA k 11)) := hs
    rw [← r0] at hs
    exact hs
  | 12, hq, h, hs => exact hs
  | 13, hq, h, hs =>
    have r0 : az_u2 zA j 14 f k 13 = zA k 13 := if_neg (fun z => absurd z.2 (by decide))
    have hs : e = .inl (g 0, 52, .inl (zA k 13)) := hs
    rw [← r0] at hs
    exact hs
  | 14, hq, h, hs =>
    have r0 : az_u2 zA j 14 f k 14 = zA k 14 := if_neg (fun z => h ⟨z.1, rfl⟩)
    have hs : e = .inl (g 0, 52, .inl (zA k 14)) := hs
    rw [← r0] at hs
    exact hs
  | n + 15, hq, h, hs => exact hs
theorem az_kX0 {g : Nat → ClassId} {ad : Nat → Nat} {zG : Nat → Nat × Nat} {zO : Nat → Nat} {zX : Nat → Nat → Int64} {zY : Nat → Nat → Int32} {zA : Nat → Nat → Nat → Int32} {j : Nat} {v : Int64} : ∀ k q e, q < 16 → ¬ (k = j ∧ q = 0) → az_shC g ad zG zO zX zY zA k q e → az_shC g ad zG zO (az_u2 zX j 0 v) zY zA k q e := by
  intro k q e hq h hs
  match q, hq, h, hs with
  | 0, hq, h, hs =>
    have r0 : az_u2 zX j 0 v k 0 = zX k 0 := if_neg (fun z => h ⟨z.1, rfl⟩)
    have r1 : az_u2 zX j 0 v k 1 = zX k 1 := if_neg (fun z => h ⟨z.1, rfl⟩)
    have r2 : az_u2 zX j 0 v k 2 = zX k 2 := if_neg (fun z => h ⟨z.1, rfl⟩)
    have hs : aw_cof (zO k) ∧ e = .inr (1, [.ref (aw_c ad k 1), .ref (aw_c ad k 15), .int (nI (zG k).1), .int (nI (zG k).2), .ref (aw_c ad k (zO k)), .long (zX k 0), .long (zX k 1), .long (zX k 2), .int (zY k 0), .int (zY k 1)]) := hs
    rw [← r0, ← r1, ← r2] at hs
    exact hs
  | 1, hq, h, hs => exact hs
  | 2, hq, h, hs => exact hs
  | 3, hq, h, hs => exact hs
  | 4, hq, h, hs => exact hs
  | 5, hq, h, hs => exact hs
  | 6, hq, h, hs => exact hs
  | 7, hq, h, hs => exact hs
  | 8, hq, h, hs => exact hs
  | 9, hq, h, hs => exact hs
  | 10, hq, h, hs => exact hs
  | 11, hq, h, hs => exact hs
  | 12, hq, h, hs => exact hs
  | 13, hq, h, hs => exact hs
  | 14, hq, h, hs => exact hs
  | n + 15, hq, h, hs =>
    have hn : n = 0 := by omega
    subst hn
    have r0 : az_u2 zX j 0 v k 3 = zX k 3 := if_neg (fun z => absurd z.2 (by decide))
    have r1 : az_u2 zX j 0 v k 4 = zX k 4 := if_neg (fun z => absurd z.2 (by decide))
    have hs : e = .inr (2, [.int (zY k 2), .long (zX k 3), .long (zX k 4), .int (zY k 3)]) := hs
    rw [← r0, ← r1] at hs
    exact hs
theorem az_kX1 {g : Nat → ClassId} {ad : Nat → Nat} {zG : Nat → Nat × Nat} {zO : Nat → Nat} {zX : Nat → Nat → Int64} {zY : Nat → Nat → Int32} {zA : Nat → Nat → Nat → Int32} {j : Nat} {v : Int64} : ∀ k q e, q < 16 → ¬ (k = j ∧ q = 0) → az_shC g ad zG zO zX zY zA k q e → az_shC g ad zG zO (az_u2 zX j 1 v) zY zA k q e := by
  intro k q e hq h hs
  match q, hq, h, hs with
  | 0, hq, h, hs =>
    have r0 : az_u2 zX j 1 v k 0 = zX k 0 := if_neg (fun z => h ⟨z.1, rfl⟩)
    have r1 : az_u2 zX j 1 v k 1 = zX k 1 := if_neg (fun z => h ⟨z.1, rfl⟩)
    have r2 : az_u2 zX j 1 v k 2 = zX k 2 := if_neg (fun z => h ⟨z.1, rfl⟩)
    have hs : aw_cof (zO k) ∧ e = .inr (1, [.ref (aw_c ad k 1), .ref (aw_c ad k 15), .int (nI (zG k).1), .int (nI (zG k).2), .ref (aw_c ad k (zO k)), .long (zX k 0), .long (zX k 1), .long (zX k 2), .int (zY k 0), .int (zY k 1)]) := hs
    rw [← r0, ← r1, ← r2] at hs
    exact hs
  | 1, hq, h, hs => exact hs
  | 2, hq, h, hs => exact hs
  | 3, hq, h, hs => exact hs
  | 4, hq, h, hs => exact hs
  | 5, hq, h, hs => exact hs
  | 6, hq, h, hs => exact hs
  | 7, hq, h, hs => exact hs
  | 8, hq, h, hs => exact hs
  | 9, hq, h, hs => exact hs
  | 10, hq, h, hs => exact hs
  | 11, hq, h, hs => exact hs
  | 12, hq, h, hs => exact hs
  | 13, hq, h, hs => exact hs
  | 14, hq, h, hs => exact hs
  | n + 15, hq, h, hs =>
    have hn : n = 0 := by omega
    subst hn
    have r0 : az_u2 zX j 1 v k 3 = zX k 3 := if_neg (fun z => absurd z.2 (by decide))
    have r1 : az_u2 zX j 1 v k 4 = zX k 4 := if_neg (fun z => absurd z.2 (by decide))
    have hs : e = .inr (2, [.int (zY k 2), .long (zX k 3), .long (zX k 4), .int (zY k 3)]) := hs
    rw [← r0, ← r1] at hs
    exact hs
theorem az_kX2 {g : Nat → ClassId} {ad : Nat → Nat} {zG : Nat → Nat × Nat} {zO : Nat → Nat} {zX : Nat → Nat → Int64} {zY : Nat → Nat → Int32} {zA : Nat → Nat → Nat → Int32} {j : Nat} {v : Int64} : ∀ k q e, q < 16 → ¬ (k = j ∧ q = 0) → az_shC g ad zG zO zX zY zA k q e → az_shC g ad zG zO (az_u2 zX j 2 v) zY zA k q e := by
  intro k q e hq h hs
  match q, hq, h, hs with
  | 0, hq, h, hs =>
    have r0 : az_u2 zX j 2 v k 0 = zX k 0 := if_neg (fun z => h ⟨z.1, rfl⟩)
    have r1 : az_u2 zX j 2 v k 1 = zX k 1 := if_neg (fun z => h ⟨z.1, rfl⟩)
    have r2 : az_u2 zX j 2 v k 2 = zX k 2 := if_neg (fun z => h ⟨z.1, rfl⟩)
    have hs : aw_cof (zO k) ∧ e = .inr (1, [.ref (aw_c ad k 1), .ref (aw_c ad k 15), .int (nI (zG k).1), .int (nI (zG k).2), .ref (aw_c ad k (zO k)), .long (zX k 0), .long (zX k 1), .long (zX k 2), .int (zY k 0), .int (zY k 1)]) := hs
    rw [← r0, ← r1, ← r2] at hs
    exact hs
  | 1, hq, h, hs => exact hs
  | 2, hq, h, hs => exact hs
  | 3, hq, h, hs => exact hs
  | 4, hq, h, hs => exact hs
  | 5, hq, h, hs => exact hs
  | 6, hq, h, hs => exact hs
  | 7, hq, h, hs => exact hs
  | 8, hq, h, hs => exact hs
  | 9, hq, h, hs => exact hs
  | 10, hq, h, hs => exact hs
  | 11, hq, h, hs => exact hs
  | 12, hq, h, hs => exact hs
  | 13, hq, h, hs => exact hs
  | 14, hq, h, hs => exact hs
  | n + 15, hq, h, hs =>
    have hn : n = 0 := by omega
    subst hn
    have r0 : az_u2 zX j 2 v k 3 = zX k 3 := if_neg (fun z => absurd z.2 (by decide))
    have r1 : az_u2 zX j 2 v k 4 = zX k 4 := if_neg (fun z => absurd z.2 (by decide))
    have hs : e = .inr (2, [.int (zY k 2), .long (zX k 3), .long (zX k 4), .int (zY k 3)]) := hs
    rw [← r0, ← r1] at hs
    exact hs
theorem az_kX3 {g : Nat → ClassId} {ad : Nat → Nat} {zG : Nat → Nat × Nat} {zO : Nat → Nat} {zX : Nat → Nat → Int64} {zY : Nat → Nat → Int32} {zA : Nat → Nat → Nat → Int32} {j : Nat} {v : Int64} : ∀ k q e, q < 16 → ¬ (k = j ∧ q = 15) → az_shC g ad zG zO zX zY zA k q e → az_shC g ad zG zO (az_u2 zX j 3 v) zY zA k q e := by
  intro k q e hq h hs
  match q, hq, h, hs with
  | 0, hq, h, hs =>
    have r0 : az_u2 zX j 3 v k 0 = zX k 0 := if_neg (fun z => absurd z.2 (by decide))
    have r1 : az_u2 zX j 3 v k 1 = zX k 1 := if_neg (fun z => absurd z.2 (by decide))
    have r2 : az_u2 zX j 3 v k 2 = zX k 2 := if_neg (fun z => absurd z.2 (by decide))
    have hs : aw_cof (zO k) ∧ e = .inr (1, [.ref (aw_c ad k 1), .ref (aw_c ad k 15), .int (nI (zG k).1), .int (nI (zG k).2), .ref (aw_c ad k (zO k)), .long (zX k 0), .long (zX k 1), .long (zX k 2), .int (zY k 0), .int (zY k 1)]) := hs
    rw [← r0, ← r1, ← r2] at hs
    exact hs
  | 1, hq, h, hs => exact hs
  | 2, hq, h, hs => exact hs
  | 3, hq, h, hs => exact hs
  | 4, hq, h, hs => exact hs
  | 5, hq, h, hs => exact hs
  | 6, hq, h, hs => exact hs
  | 7, hq, h, hs => exact hs
  | 8, hq, h, hs => exact hs
  | 9, hq, h, hs => exact hs
  | 10, hq, h, hs => exact hs
  | 11, hq, h, hs => exact hs
  | 12, hq, h, hs => exact hs
  | 13, hq, h, hs => exact hs
  | 14, hq, h, hs => exact hs
  | n + 15, hq, h, hs =>
    have hn : n = 0 := by omega
    subst hn
    have r0 : az_u2 zX j 3 v k 3 = zX k 3 := if_neg (fun z => h ⟨z.1, rfl⟩)
    have r1 : az_u2 zX j 3 v k 4 = zX k 4 := if_neg (fun z => h ⟨z.1, rfl⟩)
    have hs : e = .inr (2, [.int (zY k 2), .long (zX k 3), .long (zX k 4), .int (zY k 3)]) := hs
    rw [← r0, ← r1] at hs
    exact hs
theorem az_kX4 {g : Nat → ClassId} {ad : Nat → Nat} {zG : Nat → Nat × Nat} {zO : Nat → Nat} {zX : Nat → Nat → Int64} {zY : Nat → Nat → Int32} {zA : Nat → Nat → Nat → Int32} {j : Nat} {v : Int64} : ∀ k q e, q < 16 → ¬ (k = j ∧ q = 15) → az_shC g ad zG zO zX zY zA k q e → az_shC g ad zG zO (az_u2 zX j 4 v) zY zA k q e := by
  intro k q e hq h hs
  match q, hq, h, hs with
  | 0, hq, h, hs =>
    have r0 : az_u2 zX j 4 v k 0 = zX k 0 := if_neg (fun z => absurd z.2 (by decide))
    have r1 : az_u2 zX j 4 v k 1 = zX k 1 := if_neg (fun z => absurd z.2 (by decide))
    have r2 : az_u2 zX j 4 v k 2 = zX k 2 := if_neg (fun z => absurd z.2 (by decide))
    have hs : aw_cof (zO k) ∧ e = .inr (1, [.ref (aw_c ad k 1), .ref (aw_c ad k 15), .int (nI (zG k).1), .int (nI (zG k).2), .ref (aw_c ad k (zO k)), .long (zX k 0), .long (zX k 1), .long (zX k 2), .int (zY k 0), .int (zY k 1)]) := hs
    rw [← r0, ← r1, ← r2] at hs
    exact hs
  | 1, hq, h, hs => exact hs
  | 2, hq, h, hs => exact hs
  | 3, hq, h, hs => exact hs
  | 4, hq, h, hs => exact hs
  | 5, hq, h, hs => exact hs
  | 6, hq, h, hs => exact hs
  | 7, hq, h, hs => exact hs
  | 8, hq, h, hs => exact hs
  | 9, hq, h, hs => exact hs
  | 10, hq, h, hs => exact hs
  | 11, hq, h, hs => exact hs
  | 12, hq, h, hs => exact hs
  | 13, hq, h, hs => exact hs
  | 14, hq, h, hs => exact hs
  | n + 15, hq, h, hs =>
    have hn : n = 0 := by omega
    subst hn
    have r0 : az_u2 zX j 4 v k 3 = zX k 3 := if_neg (fun z => h ⟨z.1, rfl⟩)
    have r1 : az_u2 zX j 4 v k 4 = zX k 4 := if_neg (fun z => h ⟨z.1, rfl⟩)
    have hs : e = .inr (2, [.int (zY k 2), .long (zX k 3), .long (zX k 4), .int (zY k 3)]) := hs
    rw [← r0, ← r1] at hs
    exact hs
theorem az_kY0 {g : Nat → ClassId} {ad : Nat → Nat} {zG : Nat → Nat × Nat} {zO : Nat → Nat} {zX : Nat → Nat → Int64} {zY : Nat → Nat → Int32} {zA : Nat → Nat → Nat → Int32} {j : Nat} {v : Int32} : ∀ k q e, q < 16 → ¬ (k = j ∧ q = 0) → az_shC g ad zG zO zX zY zA k q e → az_shC g ad zG zO zX (az_u2 zY j 0 v) zA k q e := by
  intro k q e hq h hs
  match q, hq, h, hs with
  | 0, hq, h, hs =>
    have r0 : az_u2 zY j 0 v k 0 = zY k 0 := if_neg (fun z => h ⟨z.1, rfl⟩)
    have r1 : az_u2 zY j 0 v k 1 = zY k 1 := if_neg (fun z => h ⟨z.1, rfl⟩)
    have hs : aw_cof (zO k) ∧ e = .inr (1, [.ref (aw_c ad k 1), .ref (aw_c ad k 15), .int (nI (zG k).1), .int (nI (zG k).2), .ref (aw_c ad k (zO k)), .long (zX k 0), .long (zX k 1), .long (zX k 2), .int (zY k 0), .int (zY k 1)]) := hs
    rw [← r0, ← r1] at hs
    exact hs
  | 1, hq, h, hs => exact hs
  | 2, hq, h, hs => exact hs
  | 3, hq, h, hs => exact hs
  | 4, hq, h, hs => exact hs
  | 5, hq, h, hs => exact hs
  | 6, hq, h, hs => exact hs
  | 7, hq, h, hs => exact hs
  | 8, hq, h, hs => exact hs
  | 9, hq, h, hs => exact hs
  | 10, hq, h, hs => exact hs
  | 11, hq, h, hs => exact hs
  | 12, hq, h, hs => exact hs
  | 13, hq, h, hs => exact hs
  | 14, hq, h, hs => exact hs
  | n + 15, hq, h, hs =>
    have hn : n = 0 := by omega
    subst hn
    have r0 : az_u2 zY j 0 v k 2 = zY k 2 := if_neg (fun z => absurd z.2 (by decide))
    have r1 : az_u2 zY j 0 v k 3 = zY k 3 := if_neg (fun z => absurd z.2 (by decide))
    have hs : e = .inr (2, [.int (zY k 2), .long (zX k 3), .long (zX k 4), .int (zY k 3)]) := hs
    rw [← r0, ← r1] at hs
    exact hs
theorem az_kY1 {g : Nat → ClassId} {ad : Nat → Nat} {zG : Nat → Nat × Nat} {zO : Nat → Nat} {zX : Nat → Nat → Int64} {zY : Nat → Nat → Int32} {zA : Nat → Nat → Nat → Int32} {j : Nat} {v : Int32} : ∀ k q e, q < 16 → ¬ (k = j ∧ q = 0) → az_shC g ad zG zO zX zY zA k q e → az_shC g ad zG zO zX (az_u2 zY j 1 v) zA k q e := by
  intro k q e hq h hs
  match q, hq, h, hs with
  | 0, hq, h, hs =>
    have r0 : az_u2 zY j 1 v k 0 = zY k 0 := if_neg (fun z => h ⟨z.1, rfl⟩)
    have r1 : az_u2 zY j 1 v k 1 = zY k 1 := if_neg (fun z => h ⟨z.1, rfl⟩)
    have hs : aw_cof (zO k) ∧ e = .inr (1, [.ref (aw_c ad k 1), .ref (aw_c ad k 15), .int (nI (zG k).1), .int (nI (zG k).2), .ref (aw_c ad k (zO k)), .long (zX k 0), .long (zX k 1), .long (zX k 2), .int (zY k 0), .int (zY k 1)]) := hs
    rw [← r0, ← r1] at hs
    exact hs
  | 1, hq, h, hs => exact hs
  | 2, hq, h, hs => exact hs
  | 3, hq, h, hs => exact hs
  | 4, hq, h, hs => exact hs
  | 5, hq, h, hs => exact hs
  | 6, hq, h, hs => exact hs
  | 7, hq, h, hs => exact hs
  | 8, hq, h, hs => exact hs
  | 9, hq, h, hs => exact hs
  | 10, hq, h, hs => exact hs
  | 11, hq, h, hs => exact hs
  | 12, hq, h, hs => exact hs
  | 13, hq, h, hs => exact hs
  | 14, hq, h, hs => exact hs
  | n + 15, hq, h, hs =>
    have hn : n = 0 := by omega
    subst hn
    have r0 : az_u2 zY j 1 v k 2 = zY k 2 := if_neg (fun z => absurd z.2 (by decide))
    have r1 : az_u2 zY j 1 v k 3 = zY k 3 := if_neg (fun z => absurd z.2 (by decide))
    have hs : e = .inr (2, [.int (zY k 2), .long (zX k 3), .long (zX k 4), .int (zY k 3)]) := hs
    rw [← r0, ← r1] at hs
    exact hs
theorem az_kY2 {g : Nat → ClassId} {ad : Nat → Nat} {zG : Nat → Nat × Nat} {zO : Nat → Nat} {zX : Nat → Nat → Int64} {zY : Nat → Nat → Int32} {zA : Nat → Nat → Nat → Int32} {j : Nat} {v : Int32} : ∀ k q e, q < 16 → ¬ (k = j ∧ q = 15) → az_shC g ad zG zO zX zY zA k q e → az_shC g ad zG zO zX (az_u2 zY j 2 v) zA k q e := by
  intro k q e hq h hs
  match q, hq, h, hs with
  | 0, hq, h, hs =>
    have r0 : az_u2 zY j 2 v k 0 = zY k 0 := if_neg (fun z => absurd z.2 (by decide))
    have r1 : az_u2 zY j 2 v k 1 = zY k 1 := if_neg (fun z => absurd z.2 (by decide))
    have hs : aw_cof (zO k) ∧ e = .inr (1, [.ref (aw_c ad k 1), .ref (aw_c ad k 15), .int (nI (zG k).1), .int (nI (zG k).2), .ref (aw_c ad k (zO k)), .long (zX k 0), .long (zX k 1), .long (zX k 2), .int (zY k 0), .int (zY k 1)]) := hs
    rw [← r0, ← r1] at hs
    exact hs
  | 1, hq, h, hs => exact hs
  | 2, hq, h, hs => exact hs
  | 3, hq, h, hs => exact hs
  | 4, hq, h, hs => exact hs
  | 5, hq, h, hs => exact hs
  | 6, hq, h, hs => exact hs
  | 7, hq, h, hs => exact hs
  | 8, hq, h, hs => exact hs
  | 9, hq, h, hs => exact hs
  | 10, hq, h, hs => exact hs
  | 11, hq, h, hs => exact hs
  | 12, hq, h, hs => exact hs
  | 13, hq, h, hs => exact hs
  | 14, hq, h, hs => exact hs
  | n + 15, hq, h, hs =>
    have hn : n = 0 := by omega
    subst hn
    have r0 : az_u2 zY j 2 v k 2 = zY k 2 := if_neg (fun z => h ⟨z.1, rfl⟩)
    have r1 : az_u2 zY j 2 v k 3 = zY k 3 := if_neg (fun z => h ⟨z.1, rfl⟩)
    have hs : e = .inr (2, [.int (zY k 2), .long (zX k 3), .long (zX k 4), .int (zY k 3)]) := hs
    rw [← r0, ← r1] at hs
    exact hs
theorem az_kY3 {g : Nat → ClassId} {ad : Nat → Nat} {zG : Nat → Nat × Nat} {zO : Nat → Nat} {zX : Nat → Nat → Int64} {zY : Nat → Nat → Int32} {zA : Nat → Nat → Nat → Int32} {j : Nat} {v : Int32} : ∀ k q e, q < 16 → ¬ (k = j ∧ q = 15) → az_shC g ad zG zO zX zY zA k q e → az_shC g ad zG zO zX (az_u2 zY j 3 v) zA k q e := by
  intro k q e hq h hs
  match q, hq, h, hs with
  | 0, hq, h, hs =>
    have r0 : az_u2 zY j 3 v k 0 = zY k 0 := if_neg (fun z => absurd z.2 (by decide))
    have r1 : az_u2 zY j 3 v k 1 = zY k 1 := if_neg (fun z => absurd z.2 (by decide))
    have hs : aw_cof (zO k) ∧ e = .inr (1, [.ref (aw_c ad k 1), .ref (aw_c ad k 15), .int (nI (zG k).1), .int (nI (zG k).2), .ref (aw_c ad k (zO k)), .long (zX k 0), .long (zX k 1), .long (zX k 2), .int (zY k 0), .int (zY k 1)]) := hs
    rw [← r0, ← r1] at hs
    exact hs
  | 1, hq, h, hs => exact hs
  | 2, hq, h, hs => exact hs
  | 3, hq, h, hs => exact hs
  | 4, hq, h, hs => exact hs
  | 5, hq, h, hs => exact hs
  | 6, hq, h, hs => exact hs
  | 7, hq, h, hs => exact hs
  | 8, hq, h, hs => exact hs
  | 9, hq, h, hs => exact hs
  | 10, hq, h, hs => exact hs
  | 11, hq, h, hs => exact hs
  | 12, hq, h, hs => exact hs
  | 13, hq, h, hs => exact hs
  | 14, hq, h, hs => exact hs
  | n + 15, hq, h, hs =>
    have hn : n = 0 := by omega
    subst hn
    have r0 : az_u2 zY j 3 v k 2 = zY k 2 := if_neg (fun z => h ⟨z.1, rfl⟩)
    have r1 : az_u2 zY j 3 v k 3 = zY k 3 := if_neg (fun z => h ⟨z.1, rfl⟩)
    have hs : e = .inr (2, [.int (zY k 2), .long (zX k 3), .long (zX k 4), .int (zY k 3)]) := hs
    rw [← r0, ← r1] at hs
    exact hs
theorem az_kO {g : Nat → ClassId} {ad : Nat → Nat} {zG : Nat → Nat × Nat} {zO : Nat → Nat} {zX : Nat → Nat → Int64} {zY : Nat → Nat → Int32} {zA : Nat → Nat → Nat → Int32} {j : Nat} {v : Nat} : ∀ k q e, q < 16 → ¬ (k = j ∧ q = 0) → az_shC g ad zG zO zX zY zA k q e → az_shC g ad zG (az_u1 zO j v) zX zY zA k q e := by
  intro k q e hq h hs
  match q, hq, h, hs with
  | 0, hq, h, hs =>
    have r0 : az_u1 zO j v k = zO k := if_neg (fun z => h ⟨z, rfl⟩)
    have hs : aw_cof (zO k) ∧ e = .inr (1, [.ref (aw_c ad k 1), .ref (aw_c ad k 15), .int (nI (zG k).1), .int (nI (zG k).2), .ref (aw_c ad k (zO k)), .long (zX k 0), .long (zX k 1), .long (zX k 2), .int (zY k 0), .int (zY k 1)]) := hs
    rw [← r0] at hs
    exact hs
  | 1, hq, h, hs => exact hs
  | 2, hq, h, hs => exact hs
  | 3, hq, h, hs => exact hs
  | 4, hq, h, hs => exact hs
  | 5, hq, h, hs => exact hs
  | 6, hq, h, hs => exact hs
  | 7, hq, h, hs => exact hs
  | 8, hq, h, hs => exact hs
  | 9, hq, h, hs => exact hs
  | 10, hq, h, hs => exact hs
  | 11, hq, h, hs => exact hs
  | 12, hq, h, hs => exact hs
  | 13, hq, h, hs => exact hs
  | 14, hq, h, hs => exact hs
  | n + 15, hq, h, hs => exact hs
theorem az_kG1 {g : Nat → ClassId} {ad : Nat → Nat} {zG : Nat → Nat × Nat} {zO : Nat → Nat} {zX : Nat → Nat → Int64} {zY : Nat → Nat → Int32} {zA : Nat → Nat → Nat → Int32} {j : Nat} {v : Nat} : ∀ k q e, q < 16 → ¬ (k = j ∧ q = 0) → az_shC g ad zG zO zX zY zA k q e → az_shC g ad (aw_g1 zG j v) zO zX zY zA k q e := by
  intro k q e hq h hs
  match q, hq, h, hs with
  | 0, hq, h, hs =>
    have r0 : aw_g1 zG j v k = zG k := aw_g1n zG v (fun z => h ⟨z, rfl⟩)
    have hs : aw_cof (zO k) ∧ e = .inr (1, [.ref (aw_c ad k 1), .ref (aw_c ad k 15), .int (nI (zG k).1), .int (nI (zG k).2), .ref (aw_c ad k (zO k)), .long (zX k 0), .long (zX k 1), .long (zX k 2), .int (zY k 0), .int (zY k 1)]) := hs
    rw [← r0] at hs
    exact hs
  | 1, hq, h, hs => exact hs
  | 2, hq, h, hs => exact hs
  | 3, hq, h, hs => exact hs
  | 4, hq, h, hs => exact hs
  | 5, hq, h, hs => exact hs
  | 6, hq, h, hs => exact hs
  | 7, hq, h, hs => exact hs
  | 8, hq, h, hs => exact hs
  | 9, hq, h, hs => exact hs
  | 10, hq, h, hs => exact hs
  | 11, hq, h, hs => exact hs
  | 12, hq, h, hs => exact hs
  | 13, hq, h, hs => exact hs
  | 14, hq, h, hs => exact hs
  | n + 15, hq, h, hs => exact hs
theorem az_kG2 {g : Nat → ClassId} {ad : Nat → Nat} {zG : Nat → Nat × Nat} {zO : Nat → Nat} {zX : Nat → Nat → Int64} {zY : Nat → Nat → Int32} {zA : Nat → Nat → Nat → Int32} {j : Nat} {v : Nat} : ∀ k q e, q < 16 → ¬ (k = j ∧ q = 0) → az_shC g ad zG zO zX zY zA k q e → az_shC g ad (aw_g2 zG j v) zO zX zY zA k q e := by
  intro k q e hq h hs
  match q, hq, h, hs with
  | 0, hq, h, hs =>
    have r0 : aw_g2 zG j v k = zG k := aw_g2n zG v (fun z => h ⟨z, rfl⟩)
    have hs : aw_cof (zO k) ∧ e = .inr (1, [.ref (aw_c ad k 1), .ref (aw_c ad k 15), .int (nI (zG k).1), .int (nI (zG k).2), .ref (aw_c ad k (zO k)), .long (zX k 0), .long (zX k 1), .long (zX k 2), .int (zY k 0), .int (zY k 1)]) := hs
    rw [← r0] at hs
    exact hs
  | 1, hq, h, hs => exact hs
  | 2, hq, h, hs => exact hs
  | 3, hq, h, hs => exact hs
  | 4, hq, h, hs => exact hs
  | 5, hq, h, hs => exact hs
  | 6, hq, h, hs => exact hs
  | 7, hq, h, hs => exact hs
  | 8, hq, h, hs => exact hs
  | 9, hq, h, hs => exact hs
  | 10, hq, h, hs => exact hs
  | 11, hq, h, hs => exact hs
  | 12, hq, h, hs => exact hs
  | 13, hq, h, hs => exact hs
  | 14, hq, h, hs => exact hs
  | n + 15, hq, h, hs => exact hs
theorem az_kI1 {g : Nat → ClassId} {ad : Nat → Nat} {zM : Nat → Nat × Nat} {zI : Nat → Nat → Int32} {zL : Nat → Nat → Int64} {zK : Int32} {zN : Nat} {zF : Int32} {f : Nat → Int32} : ∀ q e, q < 17 → q ≠ 1 → az_shM g ad zM zI zL zK zN zF q e → az_shM g ad zM (az_u1 zI 1 f) zL zK zN zF q e := by
  intro q e hq h hs
  match q, hq, h, hs with
  | 0, hq, h, hs => exact hs
  | 1, hq, h, hs => exact absurd (by omega) h
  | 2, hq, h, hs =>
    have r0 : az_u1 zI 1 f 2 = zI 2 := if_neg (by decide)
    have hs : (∀ k, k < 4 → zI 2 k = nI (zM k).1) ∧ e = .inl (g 0, 4, .inl (zI 2)) := hs
    rw [← r0] at hs
    exact hs
  | 3, hq, h, hs =>
    have r0 : az_u1 zI 1 f 3 = zI 3 := if_neg (by decide)
    have hs : e = .inl (g 0, 4, .inl (zI 3)) := hs
    rw [← r0] at hs
    exact hs
  | 4, hq, h, hs => exact hs
  | 5, hq, h, hs => exact hs
  | 6, hq, h, hs =>
    have r0 : az_u1 zI 1 f 6 = zI 6 := if_neg (by decide)
    have hs : (∀ k, k < 4 → zI 6 k = nI (zM k).2) ∧ e = .inl (g 0, 4, .inl (zI 6)) := hs
    rw [← r0] at hs
    exact hs
  | 7, hq, h, hs => exact hs
  | 8, hq, h, hs => exact hs
  | 9, hq, h, hs =>
    have r0 : az_u1 zI 1 f 9 = zI 9 := if_neg (by decide)
    have hs : e = .inl (g 0, 4, .inl (zI 9)) := hs
    rw [← r0] at hs
    exact hs
  | 10, hq, h, hs =>
    have r0 : az_u1 zI 1 f 10 = zI 10 := if_neg (by decide)
    have hs : e = .inl (g 0, 4, .inl (zI 10)) := hs
    rw [← r0] at hs
    exact hs
  | 11, hq, h, hs =>
    have r0 : az_u1 zI 1 f 11 = zI 11 := if_neg (by decide)
    have hs : e = .inl (g 0, 4, .inl (zI 11)) := hs
    rw [← r0] at hs
    exact hs
  | 12, hq, h, hs => exact hs
  | 13, hq, h, hs => exact hs
  | 14, hq, h, hs =>
    have r0 : az_u1 zI 1 f 14 = zI 14 := if_neg (by decide)
    have hs : e = .inl (g 0, 4, .inl (zI 14)) := hs
    rw [← r0] at hs
    exact hs
  | 15, hq, h, hs =>
    have r0 : az_u1 zI 1 f 15 = zI 15 := if_neg (by decide)
    have hs : e = .inl (g 0, 52, .inl (zI 15)) := hs
    rw [← r0] at hs
    exact hs
  | n + 16, hq, h, hs =>
    have hn : n = 0 := by omega
    subst hn
    have r0 : az_u1 zI 1 f 16 = zI 16 := if_neg (by decide)
    have hs : e = .inl (g 0, 32, .inl (zI 16)) := hs
    rw [← r0] at hs
    exact hs
theorem az_kI3 {g : Nat → ClassId} {ad : Nat → Nat} {zM : Nat → Nat × Nat} {zI : Nat → Nat → Int32} {zL : Nat → Nat → Int64} {zK : Int32} {zN : Nat} {zF : Int32} {f : Nat → Int32} : ∀ q e, q < 17 → q ≠ 3 → az_shM g ad zM zI zL zK zN zF q e → az_shM g ad zM (az_u1 zI 3 f) zL zK zN zF q e := by
  intro q e hq h hs
  match q, hq, h, hs with
  | 0, hq, h, hs => exact hs
  | 1, hq, h, hs =>
    have r0 : az_u1 zI 3 f 1 = zI 1 := if_neg (by decide)
    have hs : e = .inl (g 0, 64, .inl (zI 1)) := hs
    rw [← r0] at hs
    exact hs
  | 2, hq, h, hs =>
    have r0 : az_u1 zI 3 f 2 = zI 2 := if_neg (by decide)
    have hs : (∀ k, k < 4 → zI 2 k = nI (zM k).1) ∧ e = .inl (g 0, 4, .inl (zI 2)) := hs
    rw [← r0] at hs
    exact hs
  | 3, hq, h, hs => exact absurd (by omega) h
  | 4, hq, h, hs => exact hs
  | 5, hq, h, hs => exact hs
  | 6, hq, h, hs =>
    have r0 : az_u1 zI 3 f 6 = zI 6 := if_neg (by decide)
    have hs : (∀ k, k < 4 → zI 6 k = nI (zM k).2) ∧ e = .inl (g 0, 4, .inl (zI 6)) := hs
    rw [← r0] at hs
    exact hs
  | 7, hq, h, hs => exact hs
  | 8, hq, h, hs => exact hs
  | 9, hq, h, hs =>
    have r0 : az_u1 zI 3 f 9 = zI 9 := if_neg (by decide)
    have hs : e = .inl (g 0, 4, .inl (zI 9)) := hs
    rw [← r0] at hs
    exact hs
  | 10, hq, h, hs =>
    have r0 : az_u1 zI 3 f 10 = zI 10 := if_neg (by decide)
    have hs : e = .inl (g 0, 4, .inl (zI 10)) := hs
    rw [← r0] at hs
    exact hs
  | 11, hq, h, hs =>
    have r0 : az_u1 zI 3 f 11 = zI 11 := if_neg (by decide)
    have hs : e = .inl (g 0, 4, .inl (zI 11)) := hs
    rw [← r0] at hs
    exact hs
  | 12, hq, h, hs => exact hs
  | 13, hq, h, hs => exact hs
  | 14, hq, h, hs =>
    have r0 : az_u1 zI 3 f 14 = zI 14 := if_neg (by decide)
    have hs : e = .inl (g 0, 4, .inl (zI 14)) := hs
    rw [← r0] at hs
    exact hs
  | 15, hq, h, hs =>
    have r0 : az_u1 zI 3 f 15 = zI 15 := if_neg (by decide)
    have hs : e = .inl (g 0, 52, .inl (zI 15)) := hs
    rw [← r0] at hs
    exact hs
  | n + 16, hq, h, hs =>
    have hn : n = 0 := by omega
    subst hn
    have r0 : az_u1 zI 3 f 16 = zI 16 := if_neg (by decide)
    have hs : e = .inl (g 0, 32, .inl (zI 16)) := hs
    rw [← r0] at hs
    exact hs
theorem az_kI9 {g : Nat → ClassId} {ad : Nat → Nat} {zM : Nat → Nat × Nat} {zI : Nat → Nat → Int32} {zL : Nat → Nat → Int64} {zK : Int32} {zN : Nat} {zF : Int32} {f : Nat → Int32} : ∀ q e, q < 17 → q ≠ 9 → az_shM g ad zM zI zL zK zN zF q e → az_shM g ad zM (az_u1 zI 9 f) zL zK zN zF q e := by
  intro q e hq h hs
  match q, hq, h, hs with
  | 0, hq, h, hs => exact hs
  | 1, hq, h, hs =>
    have r0 : az_u1 zI 9 f 1 = zI 1 := if_neg (by decide)
    have hs : e = .inl (g 0, 64, .inl (zI 1)) := hs
    rw [← r0] at hs
    exact hs
  | 2, hq, h, hs =>
    have r0 : az_u1 zI 9 f 2 = zI 2 := if_neg (by decide)
    have hs : (∀ k, k < 4 → zI 2 k = nI (zM k).1) ∧ e = .inl (g 0, 4, .inl (zI 2)) := hs
    rw [← r0] at hs
    exact hs
  | 3, hq, h, hs =>
    have r0 : az_u1 zI 9 f 3 = zI 3 := if_neg (by decide)
    have hs : e = .inl (g 0, 4, .inl (zI 3)) := hs
    rw [← r0] at hs
    exact hs
  | 4, hq, h, hs => exact hs
  | 5, hq, h, hs => exact hs
  | 6, hq, h, hs =>
    have r0 : az_u1 zI 9 f 6 = zI 6 := if_neg (by decide)
    have hs : (∀ k, k < 4 → zI 6 k = nI (zM k).2) ∧ e = .inl (g 0, 4, .inl (zI 6)) := hs
    rw [← r0] at hs
    exact hs
  | 7, hq, h, hs => exact hs
  | 8, hq, h, hs => exact hs
  | 9, hq, h, hs => exact absurd (by omega) h
  | 10, hq, h, hs =>
    have r0 : az_u1 zI 9 f 10 = zI 10 := if_neg (by decide)
    have hs : e = .inl (g 0, 4, .inl (zI 10)) := hs
    rw [← r0] at hs
    exact hs
  | 11, hq, h, hs =>
    have r0 : az_u1 zI 9 f 11 = zI 11 := if_neg (by decide)
    have hs : e = .inl (g 0, 4, .inl (zI 11)) := hs
    rw [← r0] at hs
    exact hs
  | 12, hq, h, hs => exact hs
  | 13, hq, h, hs => exact hs
  | 14, hq, h, hs =>
    have r0 : az_u1 zI 9 f 14 = zI 14 := if_neg (by decide)
    have hs : e = .inl (g 0, 4, .inl (zI 14)) := hs
    rw [← r0] at hs
    exact hs
  | 15, hq, h, hs =>
    have r0 : az_u1 zI 9 f 15 = zI 15 := if_neg (by decide)
    have hs : e = .inl (g 0, 52, .inl (zI 15)) := hs
    rw [← r0] at hs
    exact hs
  | n + 16, hq, h, hs =>
    have hn : n = 0 := by omega
    subst hn
    have r0 : az_u1 zI 9 f 16 = zI 16 := if_neg (by decide)
    have hs : e = .inl (g 0, 32, .inl (zI 16)) := hs
    rw [← r0] at hs
    exact hs
theorem az_kI10 {g : Nat → ClassId} {ad : Nat → Nat} {zM : Nat → Nat × Nat} {zI : Nat → Nat → Int32} {zL : Nat → Nat → Int64} {zK : Int32} {zN : Nat} {zF : Int32} {f : Nat → Int32} : ∀ q e, q < 17 → q ≠ 10 → az_shM g ad zM zI zL zK zN zF q e → az_shM g ad zM (az_u1 zI 10 f) zL zK zN zF q e := by
  intro q e hq h hs
  match q, hq, h, hs with
  | 0, hq, h, hs => exact hs
  | 1, hq, h, hs =>
    have r0 : az_u1 zI 10 f 1 = zI 1 := if_neg (by decide)
    have hs : e = .inl (g 0, 64, .inl (zI 1)) := hs
    rw [← r0] at hs
    exact hs
  | 2, hq, h, hs =>
    have r0 : az_u1 zI 10 f 2 = zI 2 := if_neg (by decide)
    have hs : (∀ k, k < 4 → zI 2 k = nI (zM k).1) ∧ e = .inl (g 0, 4, .inl (zI 2)) := hs
    rw [← r0] at hs
    exact hs
  | 3, hq, h, hs =>
    have r0 : az_u1 zI 10 f 3 = zI 3 := if_neg (by decide)
    have hs : e = .inl (g 0, 4, .inl (zI 3)) := hs
    rw [← r0] at hs
    exact hs
  | 4, hq, h, hs => exact hs
  | 5, hq, h, hs => exact hs
  | 6, hq, h, hs =>
    have r0 : az_u1 zI 10 f 6 = zI 6 := if_neg (by decide)
    have hs : (∀ k, k < 4 → zI 6 k = nI (zM k).2) ∧ e = .inl (g 0, 4, .inl (zI 6)) := hs
    rw [← r0] at hs
    exact hs
  | 7, hq, h, hs => exact hs
  | 8, hq, h, hs => exact hs
  | 9, hq, h, hs =>
    have r0 : az_u1 zI 10 f 9 = zI 9 := if_neg (by decide)
    have hs : e = .inl (g 0, 4, .inl (zI 9)) := hs
    rw [← r0] at hs
    exact hs
  | 10, hq, h, hs => exact absurd (by omega) h
  | 11, hq, h, hs =>
    have r0 : az_u1 zI 10 f 11 = zI 11 := if_neg (by decide)
    have hs : e = .inl (g 0, 4, .inl (zI 11)) := hs
    rw [← r0] at hs
    exact hs
  | 12, hq, h, hs => exact hs
  | 13, hq, h, hs => exact hs
  | 14, hq, h, hs =>
    have r0 : az_u1 zI 10 f 14 = zI 14 := if_neg (by decide)
    have hs : e = .inl (g 0, 4, .inl (zI 14)) := hs
    rw [← r0] at hs
    exact hs
  | 15, hq, h, hs =>
    have r0 : az_u1 zI 10 f 15 = zI 15 := if_neg (by decide)
    have hs : e = .inl (g 0, 52, .inl (zI 15)) := hs
    rw [← r0] at hs
    exact hs
  | n + 16, hq, h, hs =>
    have hn : n = 0 := by omega
    subst hn
    have r0 : az_u1 zI 10 f 16 = zI 16 := if_neg (by decide)
    have hs : e = .inl (g 0, 32, .inl (zI 16)) := hs
    rw [← r0] at hs
    exact hs
theorem az_kI11 {g : Nat → ClassId} {ad : Nat → Nat} {zM : Nat → Nat × Nat} {zI : Nat → Nat → Int32} {zL : Nat → Nat → Int64} {zK : Int32} {zN : Nat} {zF : Int32} {f : Nat → Int32} : ∀ q e, q < 17 → q ≠ 11 → az_shM g ad zM zI zL zK zN zF q e → az_shM g ad zM (az_u1 zI 11 f) zL zK zN zF q e := by
  intro q e hq h hs
  match q, hq, h, hs with
  | 0, hq, h, hs => exact hs
  | 1, hq, h, hs =>
    have r0 : az_u1 zI 11 f 1 = zI 1 := if_neg (by decide)
    have hs : e = .inl (g 0, 64, .inl (zI 1)) := hs
    rw [← r0] at hs
    exact hs
  | 2, hq, h, hs =>
    have r0 : az_u1 zI 11 f 2 = zI 2 := if_neg (by decide)
    have hs : (∀ k, k < 4 → zI 2 k = nI (zM k).1) ∧ e = .inl (g 0, 4, .inl (zI 2)) := hs
    rw [← r0] at hs
    exact hs
  | 3, hq, h, hs =>
    have r0 : az_u1 zI 11 f 3 = zI 3 := if_neg (by decide)
    have hs : e = .inl (g 0, 4, .inl (zI 3)) := hs
    rw [← r0] at hs
    exact hs
  | 4, hq, h, hs => exact hs
  | 5, hq, h, hs => exact hs
  | 6, hq, h, hs =>
    have r0 : az_u1 zI 11 f 6 = zI 6 := if_neg (by decide)
    have hs : (∀ k, k < 4 → zI 6 k = nI (zM k).2) ∧ e = .inl (g 0, 4, .inl (zI 6)) := hs
    rw [← r0] at hs
    exact hs
  | 7, hq, h, hs => exact hs
  | 8, hq, h, hs => exact hs
  | 9, hq, h, hs =>
    have r0 : az_u1 zI 11 f 9 = zI 9 := if_neg (by decide)
    have hs : e = .inl (g 0, 4, .inl (zI 9)) := hs
    rw [← r0] at hs
    exact hs
  | 10, hq, h, hs =>
    have r0 : az_u1 zI 11 f 10 = zI 10 := if_neg (by decide)
    have hs : e = .inl (g 0, 4, .inl (zI 10)) := hs
    rw [← r0] at hs
    exact hs
  | 11, hq, h, hs => exact absurd (by omega) h
  | 12, hq, h, hs => exact hs
  | 13, hq, h, hs => exact hs
  | 14, hq, h, hs =>
    have r0 : az_u1 zI 11 f 14 = zI 14 := if_neg (by decide)
    have hs : e = .inl (g 0, 4, .inl (zI 14)) := hs
    rw [← r0] at hs
    exact hs
  | 15, hq, h, hs =>
    have r0 : az_u1 zI 11 f 15 = zI 15 := if_neg (by decide)
    have hs : e = .inl (g 0, 52, .inl (zI 15)) := hs
    rw [← r0] at hs
    exact hs
  | n + 16, hq, h, hs =>
    have hn : n = 0 := by omega
    subst hn
    have r0 : az_u1 zI 11 f 16 = zI 16 := if_neg (by decide)
    have hs : e = .inl (g 0, 32, .inl (zI 16)) := hs
    rw [← r0] at hs
    exact hs
theorem az_kI14 {g : Nat → ClassId} {ad : Nat → Nat} {zM : Nat → Nat × Nat} {zI : Nat → Nat → Int32} {zL : Nat → Nat → Int64} {zK : Int32} {zN : Nat} {zF : Int32} {f : Nat → Int32} : ∀ q e, q < 17 → q ≠ 14 → az_shM g ad zM zI zL zK zN zF q e → az_shM g ad zM (az_u1 zI 14 f) zL zK zN zF q e := by
  intro q e hq h hs
  match q, hq, h, hs with
  | 0, hq, h, hs => exact hs
  | 1, hq, h, hs =>
    have r0 : az_u1 zI 14 f 1 = zI 1 := if_neg (by decide)
    have hs : e = .inl (g 0, 64, .inl (zI 1)) := hs
    rw [← r0] at hs
    exact hs
  | 2, hq, h, hs =>
    have r0 : az_u1 zI 14 f 2 = zI 2 := if_neg (by decide)
    have hs : (∀ k, k < 4 → zI 2 k = nI (zM k).1) ∧ e = .inl (g 0, 4, .inl (zI 2)) := hs
    rw [← r0] at hs
    exact hs
  | 3, hq, h, hs =>
    have r0 : az_u1 zI 14 f 3 = zI 3 := if_neg (by decide)
    have hs : e = .inl (g 0, 4, .inl (zI 3)) := hs
    rw [← r0] at hs
    exact hs
  | 4, hq, h, hs => exact hs
  | 5, hq, h, hs => exact hs
  | 6, hq, h, hs =>
    have r0 : az_u1 zI 14 f 6 = zI 6 := if_neg (by decide)
    have hs : (∀ k, k < 4 → zI 6 k = nI (zM k).2) ∧ e = .inl (g 0, 4, .inl (zI 6)) := hs
    rw [← r0] at hs
    exact hs
  | 7, hq, h, hs => exact hs
  | 8, hq, h, hs => exact hs
  | 9, hq, h, hs =>
    have r0 : az_u1 zI 14 f 9 = zI 9 := if_neg (by decide)
    have hs : e = .inl (g 0, 4, .inl (zI 9)) := hs
    rw [← r0] at hs
    exact hs
  | 10, hq, h, hs =>
    have r0 : az_u1 zI 14 f 10 = zI 10 := if_neg (by decide)
    have hs : e = .inl (g 0, 4, .inl (zI 10)) := hs
    rw [← r0] at hs
    exact hs
  | 11, hq, h, hs =>
    have r0 : az_u1 zI 14 f 11 = zI 11 := if_neg (by decide)
    have hs : e = .inl (g 0, 4, .inl (zI 11)) := hs
    rw [← r0] at hs
    exact hs
  | 12, hq, h, hs => exact hs
  | 13, hq, h, hs => exact hs
  | 14, hq, h, hs => exact absurd (by omega) h
  | 15, hq, h, hs =>
    have r0 : az_u1 zI 14 f 15 = zI 15 := if_neg (by decide)
    have hs : e = .inl (g 0, 52, .inl (zI 15)) := hs
    rw [← r0] at hs
    exact hs
  | n + 16, hq, h, hs =>
    have hn : n = 0 := by omega
    subst hn
    have r0 : az_u1 zI 14 f 16 = zI 16 := if_neg (by decide)
    have hs : e = .inl (g 0, 32, .inl (zI 16)) := hs
    rw [← r0] at hs
    exact hs
theorem az_kI15 {g : Nat → ClassId} {ad : Nat → Nat} {zM : Nat → Nat × Nat} {zI : Nat → Nat → Int32} {zL : Nat → Nat → Int64} {zK : Int32} {zN : Nat} {zF : Int32} {f : Nat → Int32} : ∀ q e, q < 17 → q ≠ 15 → az_shM g ad zM zI zL zK zN zF q e → az_shM g ad zM (az_u1 zI 15 f) zL zK zN zF q e := by
  intro q e hq h hs
  match q, hq, h, hs with
  | 0, hq, h, hs => exact hs
  | 1, hq, h, hs =>
    have r0 : az_u1 zI 15 f 1 = zI 1 := if_neg (by decide)
    have hs : e = .inl (g 0, 64, .inl (zI 1)) := hs
    rw [← r0] at hs
    exact hs
  | 2, hq, h, hs =>
    have r0 : az_u1 zI 15 f 2 = zI 2 := if_neg (by decide)
    have hs : (∀ k, k < 4 → zI 2 k = nI (zM k).1) ∧ e = .inl (g 0, 4, .inl (zI 2)) := hs
    rw [← r0] at hs
    exact hs
  | 3, hq, h, hs =>
    have r0 : az_u1 zI 15 f 3 = zI 3 := if_neg (by decide)
    have hs : e = .inl (g 0, 4, .inl (zI 3)) := hs
    rw [← r0] at hs
    exact hs
  | 4, hq, h, hs => exact hs
  | 5, hq, h, hs => exact hs
  | 6, hq, h, hs =>
    have r0 : az_u1 zI 15 f 6 = zI 6 := if_neg (by decide)
    have hs : (∀ k, k < 4 → zI 6 k = nI (zM k).2) ∧ e = .inl (g 0, 4, .inl (zI 6)) := hs
    rw [← r0] at hs
    exact hs
  | 7, hq, h, hs => exact hs
  | 8, hq, h, hs => exact hs
  | 9, hq, h, hs =>
    have r0 : az_u1 zI 15 f 9 = zI 9 := if_neg (by decide)
    have hs : e = .inl (g 0, 4, .inl (zI 9)) := hs
    rw [← r0] at hs
    exact hs
  | 10, hq, h, hs =>
    have r0 : az_u1 zI 15 f 10 = zI 10 := if_neg (by decide)
    have hs : e = .inl (g 0, 4, .inl (zI 10)) := hs
    rw [← r0] at hs
    exact hs
  | 11, hq, h, hs =>
    have r0 : az_u1 zI 15 f 11 = zI 11 := if_neg (by decide)
    have hs : e = .inl (g 0, 4, .inl (zI 11)) := hs
    rw [← r0] at hs
    exact hs
  | 12, hq, h, hs => exact hs
  | 13, hq, h, hs => exact hs
  | 14, hq, h, hs =>
    have r0 : az_u1 zI 15 f 14 = zI 14 := if_neg (by decide)
    have hs : e = .inl (g 0, 4, .inl (zI 14)) := hs
    rw [← r0] at hs
    exact hs
  | 15, hq, h, hs => exact absurd (by omega) h
  | n + 16, hq, h, hs =>
    have hn : n = 0 := by omega
    subst hn
    have r0 : az_u1 zI 15 f 16 = zI 16 := if_neg (by decide)
    have hs : e = .inl (g 0, 32, .inl (zI 16)) := hs
    rw [← r0] at hs
    exact hs
theorem az_kI16 {g : Nat → ClassId} {ad : Nat → Nat} {zM : Nat → Nat × Nat} {zI : Nat → Nat → Int32} {zL : Nat → Nat → Int64} {zK : Int32} {zN : Nat} {zF : Int32} {f : Nat → Int32} : ∀ q e, q < 17 → q ≠ 16 → az_shM g ad zM zI zL zK zN zF q e → az_shM g ad zM (az_u1 zI 16 f) zL zK zN zF q e := by
  intro q e hq h hs
  match q, hq, h, hs with
  | 0, hq, h, hs => exact hs
  | 1, hq, h, hs =>
    have r0 : az_u1 zI 16 f 1 = zI 1 := if_neg (by decide)
    have hs : e = .inl (g 0, 64, .inl (zI 1)) := hs
    rw [← r0] at hs
    exact hs
  | 2, hq, h, hs =>
    have r0 : az_u1 zI 16 f 2 = zI 2 := if_neg (by decide)
    have hs : (∀ k, k < 4 → zI 2 k = nI (zM k).1) ∧ e = .inl (g 0, 4, .inl (zI 2)) := hs
    rw [← r0] at hs
    exact hs
  | 3, hq, h, hs =>
    have r0 : az_u1 zI 16 f 3 = zI 3 := if_neg (by decide)
    have hs : e = .inl (g 0, 4, .inl (zI 3)) := hs
    rw [← r0] at hs
    exact hs
  | 4, hq, h, hs => exact hs
  | 5, hq, h, hs => exact hs
  | 6, hq, h, hs =>
    have r0 : az_u1 zI 16 f 6 = zI 6 := if_neg (by decide)
    have hs : (∀ k, k < 4 → zI 6 k = nI (zM k).2) ∧ e = .inl (g 0, 4, .inl (zI 6)) := hs
    rw [← r0] at hs
    exact hs
  | 7, hq, h, hs => exact hs
  | 8, hq, h, hs => exact hs
  | 9, hq, h, hs =>
    have r0 : az_u1 zI 16 f 9 = zI 9 := if_neg (by decide)
    have hs : e = .inl (g 0, 4, .inl (zI 9)) := hs
    rw [← r0] at hs
    exact hs
  | 10, hq, h, hs =>
    have r0 : az_u1 zI 16 f 10 = zI 10 := if_neg (by decide)
    have hs : e = .inl (g 0, 4, .inl (zI 10)) := hs
    rw [← r0] at hs
    exact hs
  | 11, hq, h, hs =>
    have r0 : az_u1 zI 16 f 11 = zI 11 := if_neg (by decide)
    have hs : e = .inl (g 0, 4, .inl (zI 11)) := hs
    rw [← r0] at hs
    exact hs
  | 12, hq, h, hs => exact hs
  | 13, hq, h, hs => exact hs
  | 14, hq, h, hs =>
    have r0 : az_u1 zI 16 f 14 = zI 14 := if_neg (by decide)
    have hs : e = .inl (g 0, 4, .inl (zI 14)) := hs
    rw [← r0] at hs
    exact hs
  | 15, hq, h, hs =>
    have r0 : az_u1 zI 16 f 15 = zI 15 := if_neg (by decide)
    have hs : e = .inl (g 0, 52, .inl (zI 15)) := hs
    rw [← r0] at hs
    exact hs
  | n + 16, hq, h, hs => exact absurd (by omega) h
theorem az_kL4 {g : Nat → ClassId} {ad : Nat → Nat} {zM : Nat → Nat × Nat} {zI : Nat → Nat → Int32} {zL : Nat → Nat → Int64} {zK : Int32} {zN : Nat} {zF : Int32} {f : Nat → Int64} : ∀ q e, q < 17 → q ≠ 4 → az_shM g ad zM zI zL zK zN zF q e → az_shM g ad zM zI (az_u1 zL 4 f) zK zN zF q e := by
  intro q e hq h hs
  match q, hq, h, hs with
  | 0, hq, h, hs => exact hs
  | 1, hq, h, hs => exact hs
  | 2, hq, h, hs => exact hs
  | 3, hq, h, hs => exact hs
  | 4, hq, h, hs => exact absurd (by omega) h
  | 5, hq, h, hs =>
    have r0 : az_u1 zL 4 f 5 = zL 5 := if_neg (by decide)
    have hs : e = .inl (g 1, 4, .inr (.inl (zL 5))) := hs
    rw [← r0] at hs
    exact hs
  | 6, hq, h, hs => exact hs
  | 7, hq, h, hs =>
    have r0 : az_u1 zL 4 f 7 = zL 7 := if_neg (by decide)
    have hs : e = .inl (g 1, 4, .inr (.inl (zL 7))) := hs
    rw [← r0] at hs
    exact hs
  | 8, hq, h, hs =>
    have r0 : az_u1 zL 4 f 8 = zL 8 := if_neg (by decide)
    have hs : e = .inl (g 1, 4, .inr (.inl (zL 8))) := hs
    rw [← r0] at hs
    exact hs
  | 9, hq, h, hs => exact hs
  | 10, hq, h, hs => exact hs
  | 11, hq, h, hs => exact hs
  | 12, hq, h, hs =>
    have r0 : az_u1 zL 4 f 12 = zL 12 := if_neg (by decide)
    have hs : e = .inl (g 1, 4, .inr (.inl (zL 12))) := hs
    rw [← r0] at hs
    exact hs
  | 13, hq, h, hs =>
    have r0 : az_u1 zL 4 f 13 = zL 13 := if_neg (by decide)
    have hs : e = .inl (g 1, 4, .inr (.inl (zL 13))) := hs
    rw [← r0] at hs
    exact hs
  | 14, hq, h, hs => exact hs
  | 15, hq, h, hs => exact hs
  | n + 16, hq, h, hs => exact hs
theorem az_kL5 {g : Nat → ClassId} {ad : Nat → Nat} {zM : Nat → Nat × Nat} {zI : Nat → Nat → Int32} {zL : Nat → Nat → Int64} {zK : Int32} {zN : Nat} {zF : Int32} {f : Nat → Int64} : ∀ q e, q < 17 → q ≠ 5 → az_shM g ad zM zI zL zK zN zF q e → az_shM g ad zM zI (az_u1 zL 5 f) zK zN zF q e := by
  intro q e hq h hs
  match q, hq, h, hs with
  | 0, hq, h, hs => exact hs
  | 1, hq, h, hs => exact hs
  | 2, hq, h, hs => exact hs
  | 3, hq, h, hs => exact hs
  | 4, hq, h, hs =>
    have r0 : az_u1 zL 5 f 4 = zL 4 := if_neg (by decide)
    have hs : e = .inl (g 1, 4, .inr (.inl (zL 4))) := hs
    rw [← r0] at hs
    exact hs
  | 5, hq, h, hs => exact absurd (by omega) h
  | 6, hq, h, hs => exact hs
  | 7, hq, h, hs =>
    have r0 : az_u1 zL 5 f 7 = zL 7 := if_neg (by decide)
    have hs : e = .inl (g 1, 4, .inr (.inl (zL 7))) := hs
    rw [← r0] at hs
    exact hs
  | 8, hq, h, hs =>
    have r0 : az_u1 zL 5 f 8 = zL 8 := if_neg (by decide)
    have hs : e = .inl (g 1, 4, .inr (.inl (zL 8))) := hs
    rw [← r0] at hs
    exact hs
  | 9, hq, h, hs => exact hs
  | 10, hq, h, hs => exact hs
  | 11, hq, h, hs => exact hs
  | 12, hq, h, hs =>
    have r0 : az_u1 zL 5 f 12 = zL 12 := if_neg (by decide)
    have hs : e = .inl (g 1, 4, .inr (.inl (zL 12))) := hs
    rw [← r0] at hs
    exact hs
  | 13, hq, h, hs =>
    have r0 : az_u1 zL 5 f 13 = zL 13 := if_neg (by decide)
    have hs : e = .inl (g 1, 4, .inr (.inl (zL 13))) := hs
    rw [← r0] at hs
    exact hs
  | 14, hq, h, hs => exact hs
  | 15, hq, h, hs => exact hs
  | n + 16, hq, h, hs => exact hs
theorem az_kL7 {g : Nat → ClassId} {ad : Nat → Nat} {zM : Nat → Nat × Nat} {zI : Nat → Nat → Int32} {zL : Nat → Nat → Int64} {zK : Int32} {zN : Nat} {zF : Int32} {f : Nat → Int64} : ∀ q e, q < 17 → q ≠ 7 → az_shM g ad zM zI zL zK zN zF q e → az_shM g ad zM zI (az_u1 zL 7 f) zK zN zF q e := by
  intro q e hq h hs
  match q, hq, h, hs with
  | 0, hq, h, hs => exact hs
  | 1, hq, h, hs => exact hs
  | 2, hq, h, hs => exact hs
  | 3, hq, h, hs => exact hs
  | 4, hq, h, hs =>
    have r0 : az_u1 zL 7 f 4 = zL 4 := if_neg (by decide)
    have hs : e = .inl (g 1, 4, .inr (.inl (zL 4))) := hs
    rw [← r0] at hs
    exact hs
  | 5, hq, h, hs =>
    have r0 : az_u1 zL 7 f 5 = zL 5 := if_neg (by decide)
    have hs : e = .inl (g 1, 4, .inr (.inl (zL 5))) := hs
    rw [← r0] at hs
    exact hs
  | 6, hq, h, hs => exact hs
  | 7, hq, h, hs => exact absurd (by omega) h
  | 8, hq, h, hs =>
    have r0 : az_u1 zL 7 f 8 = zL 8 := if_neg (by decide)
    have hs : e = .inl (g 1, 4, .inr (.inl (zL 8))) := hs
    rw [← r0] at hs
    exact hs
  | 9, hq, h, hs => exact hs
  | 10, hq, h, hs => exact hs
  | 11, hq, h, hs => exact hs
  | 12, hq, h, hs =>
    have r0 : az_u1 zL 7 f 12 = zL 12 := if_neg (by decide)
    have hs : e = .inl (g 1, 4, .inr (.inl (zL 12))) := hs
    rw [← r0] at hs
    exact hs
  | 13, hq, h, hs =>
    have r0 : az_u1 zL 7 f 13 = zL 13 := if_neg (by decide)
    have hs : e = .inl (g 1, 4, .inr (.inl (zL 13))) := hs
    rw [← r0] at hs
    exact hs
  | 14, hq, h, hs => exact hs
  | 15, hq, h, hs => exact hs
  | n + 16, hq, h, hs => exact hs
theorem az_kL8 {g : Nat → ClassId} {ad : Nat → Nat} {zM : Nat → Nat × Nat} {zI : Nat → Nat → Int32} {zL : Nat → Nat → Int64} {zK : Int32} {zN : Nat} {zF : Int32} {f : Nat → Int64} : ∀ q e, q < 17 → q ≠ 8 → az_shM g ad zM zI zL zK zN zF q e → az_shM g ad zM zI (az_u1 zL 8 f) zK zN zF q e := by
  intro q e hq h hs
  match q, hq, h, hs with
  | 0, hq, h, hs => exact hs
  | 1, hq, h, hs => exact hs
  | 2, hq, h, hs => exact hs
  | 3, hq, h, hs => exact hs
  | 4, hq, h, hs =>
    have r0 : az_u1 zL 8 f 4 = zL 4 := if_neg (by decide)
    have hs : e = .inl (g 1, 4, .inr (.inl (zL 4))) := hs
    rw [← r0] at hs
    exact hs
  | 5, hq, h, hs =>
    have r0 : az_u1 zL 8 f 5 = zL 5 := if_neg (by decide)
    have hs : e = .inl (g 1, 4, .inr (.inl (zL 5))) := hs
    rw [← r0] at hs
    exact hs
  | 6, hq, h, hs => exact hs
  | 7, hq, h, hs =>
    have r0 : az_u1 zL 8 f 7 = zL 7 := if_neg (by decide)
    have hs : e = .inl (g 1, 4, .inr (.inl (zL 7))) := hs
    rw [← r0] at hs
    exact hs
  | 8, hq, h, hs => exact absurd (by omega) h
  | 9, hq, h, hs => exact hs
  | 10, hq, h, hs => exact hs
  | 11, hq, h, hs => exact hs
  | 12, hq, h, hs =>
    have r0 : az_u1 zL 8 f 12 = zL 12 := if_neg (by decide)
    have hs : e = .inl (g 1, 4, .inr (.inl (zL 12))) := hs
    rw [← r0] at hs
    exact hs
  | 13, hq, h, hs =>
    have r0 : az_u1 zL 8 f 13 = zL 13 := if_neg (by decide)
    have hs : e = .inl (g 1, 4, .inr (.inl (zL 13))) := hs
    rw [← r0] at hs
    exact hs
  | 14, hq, h, hs => exact hs
  | 15, hq, h, hs => exact hs
  | n + 16, hq, h, hs => exact hs
theorem az_kL12 {g : Nat → ClassId} {ad : Nat → Nat} {zM : Nat → Nat × Nat} {zI : Nat → Nat → Int32} {zL : Nat → Nat → Int64} {zK : Int32} {zN : Nat} {zF : Int32} {f : Nat → Int64} : ∀ q e, q < 17 → q ≠ 12 → az_shM g ad zM zI zL zK zN zF q e → az_shM g ad zM zI (az_u1 zL 12 f) zK zN zF q e := by
  intro q e hq h hs
  match q, hq, h, hs with
  | 0, hq, h, hs => exact hs
  | 1, hq, h, hs => exact hs
  | 2, hq, h, hs => exact hs
  | 3, hq, h, hs => exact hs
  | 4, hq, h, hs =>
    have r0 : az_u1 zL 12 f 4 = zL 4 := if_neg (by decide)
    have hs : e = .inl (g 1, 4, .inr (.inl (zL 4))) := hs
    rw [← r0] at hs
    exact hs
  | 5, hq, h, hs =>
    have r0 : az_u1 zL 12 f 5 = zL 5 := if_neg (by decide)
    have hs : e = .inl (g 1, 4, .inr (.inl (zL 5))) := hs
    rw [← r0] at hs
    exact hs
  | 6, hq, h, hs => exact hs
  | 7, hq, h, hs =>
    have r0 : az_u1 zL 12 f 7 = zL 7 := if_neg (by decide)
    have hs : e = .inl (g 1, 4, .inr (.inl (zL 7))) := hs
    rw [← r0] at hs
    exact hs
  | 8, hq, h, hs =>
    have r0 : az_u1 zL 12 f 8 = zL 8 := if_neg (by decide)
    have hs : e = .inl (g 1, 4, .inr (.inl (zL 8))) := hs
    rw [← r0] at hs
    exact hs
  | 9, hq, h, hs => exact hs
  | 10, hq, h, hs => exact hs
  | 11, hq, h, hs => exact hs
  | 12, hq, h, hs => exact absurd (by omega) h
  | 13, hq, h, hs =>
    have r0 : az_u1 zL 12 f 13 = zL 13 := if_neg (by decide)
    have hs : e = .inl (g 1, 4, .inr (.inl (zL 13))) := hs
    rw [← r0] at hs
    exact hs
  | 14, hq, h, hs => exact hs
  | 15, hq, h, hs => exact hs
  | n + 16, hq, h, hs => exact hs
theorem az_kL13 {g : Nat → ClassId} {ad : Nat → Nat} {zM : Nat → Nat × Nat} {zI : Nat → Nat → Int32} {zL : Nat → Nat → Int64} {zK : Int32} {zN : Nat} {zF : Int32} {f : Nat → Int64} : ∀ q e, q < 17 → q ≠ 13 → az_shM g ad zM zI zL zK zN zF q e → az_shM g ad zM zI (az_u1 zL 13 f) zK zN zF q e := by
  intro q e hq h hs
  match q, hq, h, hs with
  | 0, hq, h, hs => exact hs
  | 1, hq, h, hs => exact hs
  | 2, hq, h, hs => exact hs
  | 3, hq, h, hs => exact hs
  | 4, hq, h, hs =>
    have r0 : az_u1 zL 13 f 4 = zL 4 := if_neg (by decide)
    have hs : e = .inl (g 1, 4, .inr (.inl (zL 4))) := hs
    rw [← r0] at hs
    exact hs
  | 5, hq, h, hs =>
    have r0 : az_u1 zL 13 f 5 = zL 5 := if_neg (by decide)
    have hs : e = .inl (g 1, 4, .inr (.inl (zL 5))) := hs
    rw [← r0] at hs
    exact hs
  | 6, hq, h, hs => exact hs
  | 7, hq, h, hs =>
    have r0 : az_u1 zL 13 f 7 = zL 7 := if_neg (by decide)
    have hs : e = .inl (g 1, 4, .inr (.inl (zL 7))) := hs
    rw [← r0] at hs
    exact hs
  | 8, hq, h, hs =>
    have r0 : az_u1 zL 13 f 8 = zL 8 := if_neg (by decide)
    have hs : e = .inl (g 1, 4, .inr (.inl (zL 8))) := hs
    rw [← r0] at hs
    exact hs
  | 9, hq, h, hs => exact hs
  | 10, hq, h, hs => exact hs
  | 11, hq, h, hs => exact hs
  | 12, hq, h, hs =>
    have r0 : az_u1 zL 13 f 12 = zL 12 := if_neg (by decide)
    have hs : e = .inl (g 1, 4, .inr (.inl (zL 12))) := hs
    rw [← r0] at hs
    exact hs
  | 13, hq, h, hs => exact absurd (by omega) h
  | 14, hq, h, hs => exact hs
  | 15, hq, h, hs => exact hs
  | n + 16, hq, h, hs => exact hs
theorem az_kF {g : Nat → ClassId} {ad : Nat → Nat} {zM : Nat → Nat × Nat} {zI : Nat → Nat → Int32} {zL : Nat → Nat → Int64} {zK : Int32} {zN : Nat} {zF : Int32} {v : Int32} : ∀ q e, q < 17 → q ≠ 0 → az_shM g ad zM zI zL zK zN zF q e → az_shM g ad zM zI zL zK zN (v) q e := by
  intro q e hq h hs
  match q, hq, h, hs with
  | 0, hq, h, hs => exact absurd (by omega) h
  | 1, hq, h, hs => exact hs
  | 2, hq, h, hs => exact hs
  | 3, hq, h, hs => exact hs
  | 4, hq, h, hs => exact hs
  | 5, hq, h, hs => exact hs
  | 6, hq, h, hs => exact hs
  | 7, hq, h, hs => exact hs
  | 8, hq, h, hs => exact hs
  | 9, hq, h, hs => exact hs
  | 10, hq, h, hs => exact hs
  | 11, hq, h, hs => exact hs
  | 12, hq, h, hs => exact hs
  | 13, hq, h, hs => exact hs
  | 14, hq, h, hs => exact hs
  | 15, hq, h, hs => exact hs
  | n + 16, hq, h, hs => exact hs
theorem az_kK {g : Nat → ClassId} {ad : Nat → Nat} {zM : Nat → Nat × Nat} {zI : Nat → Nat → Int32} {zL : Nat → Nat → Int64} {zK : Int32} {zN : Nat} {zF : Int32} {v : Int32} : ∀ q e, q < 17 → q ≠ 0 → az_shM g ad zM zI zL zK zN zF q e → az_shM g ad zM zI zL (v) zN zF q e := by
  intro q e hq h hs
  match q, hq, h, hs with
  | 0, hq, h, hs => exact absurd (by omega) h
  | 1, hq, h, hs => exact hs
  | 2, hq, h, hs => exact hs
  | 3, hq, h, hs => exact hs
  | 4, hq, h, hs => exact hs
  | 5, hq, h, hs => exact hs
  | 6, hq, h, hs => exact hs
  | 7, hq, h, hs => exact hs
  | 8, hq, h, hs => exact hs
  | 9, hq, h, hs => exact hs
  | 10, hq, h, hs => exact hs
  | 11, hq, h, hs => exact hs
  | 12, hq, h, hs => exact hs
  | 13, hq, h, hs => exact hs
  | 14, hq, h, hs => exact hs
  | 15, hq, h, hs => exact hs
  | n + 16, hq, h, hs => exact hs
theorem az_kN {g : Nat → ClassId} {ad : Nat → Nat} {zM : Nat → Nat × Nat} {zI : Nat → Nat → Int32} {zL : Nat → Nat → Int64} {zK : Int32} {zN : Nat} {zF : Int32} {v : Nat} : ∀ q e, q < 17 → q ≠ 0 → az_shM g ad zM zI zL zK zN zF q e → az_shM g ad zM zI zL zK (v) zF q e := by
  intro q e hq h hs
  match q, hq, h, hs with
  | 0, hq, h, hs => exact absurd (by omega) h
  | 1, hq, h, hs => exact hs
  | 2, hq, h, hs => exact hs
  | 3, hq, h, hs => exact hs
  | 4, hq, h, hs => exact hs
  | 5, hq, h, hs => exact hs
  | 6, hq, h, hs => exact hs
  | 7, hq, h, hs => exact hs
  | 8, hq, h, hs => exact hs
  | 9, hq, h, hs => exact hs
  | 10, hq, h, hs => exact hs
  | 11, hq, h, hs => exact hs
  | 12, hq, h, hs => exact hs
  | 13, hq, h, hs => exact hs
  | 14, hq, h, hs => exact hs
  | 15, hq, h, hs => exact hs
  | n + 16, hq, h, hs => exact hs
theorem zr_C0 {g : Nat → ClassId} {ad : Nat → Nat} {zG : Nat → Nat × Nat} {zO : Nat → Nat} {zX : Nat → Nat → Int64} {zY : Nat → Nat → Int32} {zA : Nat → Nat → Nat → Int32} {zB : Nat → Int32} {zM : Nat → Nat × Nat} {zI : Nat → Nat → Int32} {zL : Nat → Nat → Int64} {zK : Int32} {zN : Nat} {zF : Int32} {zQ : Int64} {L : va_W} (h : az_Sh g ad zG zO zX zY zA zB zM zI zL zK zN zF zQ L) {j : Nat} (hj : j < 4) : aw_cof (zO j) ∧ L[3 + 16 * j + 0]? = some (aw_c ad j 0, .inr (1, [.ref (aw_c ad j 1), .ref (aw_c ad j 15), .int (nI (zG j).1), .int (nI (zG j).2), .ref (aw_c ad j (zO j)), .long (zX j 0), .long (zX j 1), .long (zX j 2), .int (zY j 0), .int (zY j 1)])) := by
  obtain ⟨e, he, hs⟩ := h.1 j 0 hj (by decide)
  have hs : aw_cof (zO j) ∧ e = .inr (1, [.ref (aw_c ad j 1), .ref (aw_c ad j 15), .int (nI (zG j).1), .int (nI (zG j).2), .ref (aw_c ad j (zO j)), .long (zX j 0), .long (zX j 1), .long (zX j 2), .int (zY j 0), .int (zY j 1)]) := hs
  exact ⟨hs.1, by rw [hs.2] at he; exact he⟩
theorem zr_C1 {g : Nat → ClassId} {ad : Nat → Nat} {zG : Nat → Nat × Nat} {zO : Nat → Nat} {zX : Nat → Nat → Int64} {zY : Nat → Nat → Int32} {zA : Nat → Nat → Nat → Int32} {zB : Nat → Int32} {zM : Nat → Nat × Nat} {zI : Nat → Nat → Int32} {zL : Nat → Nat → Int64} {zK : Int32} {zN : Nat} {zF : Int32} {zQ : Int64} {L : va_W} (h : az_Sh g ad zG zO zX zY zA zB zM zI zL zK zN zF zQ L) {j : Nat} (hj : j < 4) : ∃ f : Nat → Option Nat, (f 0 = some (aw_c ad j 2) ∧ f 1 = some (aw_c ad j 5) ∧ f 2 = some (aw_c ad j 7) ∧ f 3 = some (aw_c ad j 10) ∧ f 4 = some (aw_c ad j 12)) ∧ L[3 + 16 * j + 1]? = some (aw_c ad j 1, .inl (g 2, 5, .inr (.inr (.inr (.inr f))))) := by
  obtain ⟨e, he, hs⟩ := h.1 j 1 hj (by decide)
  have hs : ∃ f : Nat → Option Nat, (f 0 = some (aw_c ad j 2) ∧ f 1 = some (aw_c ad j 5) ∧ f 2 = some (aw_c ad j 7) ∧ f 3 = some (aw_c ad j 10) ∧ f 4 = some (aw_c ad j 12)) ∧ e = .inl (g 2, 5, .inr (.inr (.inr (.inr f)))) := hs
  obtain ⟨f, hc, hs⟩ := hs
  exact ⟨f, hc, by rw [hs] at he; exact he⟩
theorem zr_C10 {g : Nat → ClassId} {ad : Nat → Nat} {zG : Nat → Nat × Nat} {zO : Nat → Nat} {zX : Nat → Nat → Int64} {zY : Nat → Nat → Int32} {zA : Nat → Nat → Nat → Int32} {zB : Nat → Int32} {zM : Nat → Nat × Nat} {zI : Nat → Nat → Int32} {zL : Nat → Nat → Int64} {zK : Int32} {zN : Nat} {zF : Int32} {zQ : Int64} {L : va_W} (h : az_Sh g ad zG zO zX zY zA zB zM zI zL zK zN zF zQ L) {j : Nat} (hj : j < 4) : L[3 + 16 * j + 10]? = some (aw_c ad j 10, .inr (6, [.ref (aw_c ad j 11)])) := by
  obtain ⟨e, he, hs⟩ := h.1 j 10 hj (by decide)
  have hs : e = .inr (6, [.ref (aw_c ad j 11)]) := hs
  rw [hs] at he; exact he
theorem zr_C11 {g : Nat → ClassId} {ad : Nat → Nat} {zG : Nat → Nat × Nat} {zO : Nat → Nat} {zX : Nat → Nat → Int64} {zY : Nat → Nat → Int32} {zA : Nat → Nat → Nat → Int32} {zB : Nat → Int32} {zM : Nat → Nat × Nat} {zI : Nat → Nat → Int32} {zL : Nat → Nat → Int64} {zK : Int32} {zN : Nat} {zF : Int32} {zQ : Int64} {L : va_W} (h : az_Sh g ad zG zO zX zY zA zB zM zI zL zK zN zF zQ L) {j : Nat} (hj : j < 4) : L[3 + 16 * j + 11]? = some (aw_c ad j 11, .inl (g 0, 44, .inl (zA j 11))) := by
  obtain ⟨e, he, hs⟩ := h.1 j 11 hj (by decide)
  have hs : e = .inl (g 0, 44, .inl (zA j 11)) := hs
  rw [hs] at he; exact he
theorem zr_C12 {g : Nat → ClassId} {ad : Nat → Nat} {zG : Nat → Nat × Nat} {zO : Nat → Nat} {zX : Nat → Nat → Int64} {zY : Nat → Nat → Int32} {zA : Nat → Nat → Nat → Int32} {zB : Nat → Int32} {zM : Nat → Nat × Nat} {zI : Nat → Nat → Int32} {zL : Nat → Nat → Int64} {zK : Int32} {zN : Nat} {zF : Int32} {zQ : Int64} {L : va_W} (h : az_Sh g ad zG zO zX zY zA zB zM zI zL zK zN zF zQ L) {j : Nat} (hj : j < 4) : L[3 + 16 * j + 12]? = some (aw_c ad j 12, .inr (7, [.ref (aw_c ad j 13), .ref (aw_c ad j 14)])) := by
  obtain ⟨e, he, hs⟩ := h.1 j 12 hj (by decide)
  have hs : e = .inr (7, [.ref (aw_c ad j 13), .ref (aw_c ad j 14)]) := hs
  rw [hs] at he; exact he
theorem zr_C13 {g : Nat → ClassId} {ad : Nat → Nat} {zG : Nat → Nat × Nat} {zO : Nat → Nat} {zX : Nat → Nat → Int64} {zY : Nat → Nat → Int32} {zA : Nat → Nat → Nat → Int32} {zB : Nat → Int32} {zM : Nat → Nat × Nat} {zI : Nat → Nat → Int32} {zL : Nat → Nat → Int64} {zK : Int32} {zN : Nat} {zF : Int32} {zQ : Int64} {L : va_W} (h : az_Sh g ad zG zO zX zY zA zB zM zI zL zK zN zF zQ L) {j : Nat} (hj : j < 4) : L[3 + 16 * j + 13]? = some (aw_c ad j 13, .inl (g 0, 52, .inl (zA j 13))) := by
  obtain ⟨e, he, hs⟩ := h.1 j 13 hj (by decide)
  have hs : e = .inl (g 0, 52, .inl (zA j 13)) := hs
  rw [hs] at he; exact he
theorem zr_C14 {g : Nat → ClassId} {ad : Nat → Nat} {zG : Nat → Nat × Nat} {zO : Nat → Nat} {zX : Nat → Nat → Int64} {zY : Nat → Nat → Int32} {zA : Nat → Nat → Nat → Int32} {zB : Nat → Int32} {zM : Nat → Nat × Nat} {zI : Nat → Nat → Int32} {zL : Nat → Nat → Int64} {zK : Int32} {zN : Nat} {zF : Int32} {zQ : Int64} {L : va_W} (h : az_Sh g ad zG zO zX zY zA zB zM zI zL zK zN zF zQ L) {j : Nat} (hj : j < 4) : L[3 + 16 * j + 14]? = some (aw_c ad j 14, .inl (g 0, 52, .inl (zA j 14))) := by
  obtain ⟨e, he, hs⟩ := h.1 j 14 hj (by decide)
  have hs : e = .inl (g 0, 52, .inl (zA j 14)) := hs
  rw [hs] at he; exact he
theorem zr_C15 {g : Nat → ClassId} {ad : Nat → Nat} {zG : Nat → Nat × Nat} {zO : Nat → Nat} {zX : Nat → Nat → Int64} {zY : Nat → Nat → Int32} {zA : Nat → Nat → Nat → Int32} {zB : Nat → Int32} {zM : Nat → Nat × Nat} {zI : Nat → Nat → Int32} {zL : Nat → Nat → Int64} {zK : Int32} {zN : Nat} {zF : Int32} {zQ : Int64} {L : va_W} (h : az_Sh g ad zG zO zX zY zA zB zM zI zL zK zN zF zQ L) {j : Nat} (hj : j < 4) : L[3 + 16 * j + 15]? = some (aw_c ad j 15, .inr (2, [.int (zY j 2), .long (zX j 3), .long (zX j 4), .int (zY j 3)])) := by
  obtain ⟨e, he, hs⟩ := h.1 j 15 hj (by decide)
  have hs : e = .inr (2, [.int (zY j 2), .long (zX j 3), .long (zX j 4), .int (zY j 3)]) := hs
  rw [hs] at he; exact he
theorem zr_C2 {g : Nat → ClassId} {ad : Nat → Nat} {zG : Nat → Nat × Nat} {zO : Nat → Nat} {zX : Nat → Nat → Int64} {zY : Nat → Nat → Int32} {zA : Nat → Nat → Nat → Int32} {zB : Nat → Int32} {zM : Nat → Nat × Nat} {zI : Nat → Nat → Int32} {zL : Nat → Nat → Int64} {zK : Int32} {zN : Nat} {zF : Int32} {zQ : Int64} {L : va_W} (h : az_Sh g ad zG zO zX zY zA zB zM zI zL zK zN zF zQ L) {j : Nat} (hj : j < 4) : L[3 + 16 * j + 2]? = some (aw_c ad j 2, .inr (3, [.ref (aw_c ad j 3), .ref (aw_c ad j 4)])) := by
  obtain ⟨e, he, hs⟩ := h.1 j 2 hj (by decide)
  have hs : e = .inr (3, [.ref (aw_c ad j 3), .ref (aw_c ad j 4)]) := hs
  rw [hs] at he; exact he
theorem zr_C3 {g : Nat → ClassId} {ad : Nat → Nat} {zG : Nat → Nat × Nat} {zO : Nat → Nat} {zX : Nat → Nat → Int64} {zY : Nat → Nat → Int32} {zA : Nat → Nat → Nat → Int32} {zB : Nat → Int32} {zM : Nat → Nat × Nat} {zI : Nat → Nat → Int32} {zL : Nat → Nat → Int64} {zK : Int32} {zN : Nat} {zF : Int32} {zQ : Int64} {L : va_W} (h : az_Sh g ad zG zO zX zY zA zB zM zI zL zK zN zF zQ L) {j : Nat} (hj : j < 4) : L[3 + 16 * j + 3]? = some (aw_c ad j 3, .inl (g 0, 26, .inl (zA j 3))) := by
  obtain ⟨e, he, hs⟩ := h.1 j 3 hj (by decide)
  have hs : e = .inl (g 0, 26, .inl (zA j 3)) := hs
  rw [hs] at he; exact he
theorem zr_C4 {g : Nat → ClassId} {ad : Nat → Nat} {zG : Nat → Nat × Nat} {zO : Nat → Nat} {zX : Nat → Nat → Int64} {zY : Nat → Nat → Int32} {zA : Nat → Nat → Nat → Int32} {zB : Nat → Int32} {zM : Nat → Nat × Nat} {zI : Nat → Nat → Int32} {zL : Nat → Nat → Int64} {zK : Int32} {zN : Nat} {zF : Int32} {zQ : Int64} {L : va_W} (h : az_Sh g ad zG zO zX zY zA zB zM zI zL zK zN zF zQ L) {j : Nat} (hj : j < 4) : L[3 + 16 * j + 4]? = some (aw_c ad j 4, .inl (g 0, 4, .inl (zA j 4))) := by
  obtain ⟨e, he, hs⟩ := h.1 j 4 hj (by decide)
  have hs : e = .inl (g 0, 4, .inl (zA j 4)) := hs
  rw [hs] at he; exact he
theorem zr_C5 {g : Nat → ClassId} {ad : Nat → Nat} {zG : Nat → Nat × Nat} {zO : Nat → Nat} {zX : Nat → Nat → Int64} {zY : Nat → Nat → Int32} {zA : Nat → Nat → Nat → Int32} {zB : Nat → Int32} {zM : Nat → Nat × Nat} {zI : Nat → Nat → Int32} {zL : Nat → Nat → Int64} {zK : Int32} {zN : Nat} {zF : Int32} {zQ : Int64} {L : va_W} (h : az_Sh g ad zG zO zX zY zA zB zM zI zL zK zN zF zQ L) {j : Nat} (hj : j < 4) : L[3 + 16 * j + 5]? = some (aw_c ad j 5, .inr (4, [.ref (aw_c ad j 6)])) := by
  obtain ⟨e, he, hs⟩ := h.1 j 5 hj (by decide)
  have hs : e = .inr (4, [.ref (aw_c ad j 6)]) := hs
  rw [hs] at he; exact he
theorem zr_C6 {g : Nat → ClassId} {ad : Nat → Nat} {zG : Nat → Nat × Nat} {zO : Nat → Nat} {zX : Nat → Nat → Int64} {zY : Nat → Nat → Int32} {zA : Nat → Nat → Nat → Int32} {zB : Nat → Int32} {zM : Nat → Nat × Nat} {zI : Nat → Nat → Int32} {zL : Nat → Nat → Int64} {zK : Int32} {zN : Nat} {zF : Int32} {zQ : Int64} {L : va_W} (h : az_Sh g ad zG zO zX zY zA zB zM zI zL zK zN zF zQ L) {j : Nat} (hj : j < 4) : L[3 + 16 * j + 6]? = some (aw_c ad j 6, .inl (g 0, 4, .inl (zA j 6))) := by
  obtain ⟨e, he, hs⟩ := h.1 j 6 hj (by decide)
  have hs : e = .inl (g 0, 4, .inl (zA j 6)) := hs
  rw [hs] at he; exact he
theorem zr_C7 {g : Nat → ClassId} {ad : Nat → Nat} {zG : Nat → Nat × Nat} {zO : Nat → Nat} {zX : Nat → Nat → Int64} {zY : Nat → Nat → Int32} {zA : Nat → Nat → Nat → Int32} {zB : Nat → Int32} {zM : Nat → Nat × Nat} {zI : Nat → Nat → Int32} {zL : Nat → Nat → Int64} {zK : Int32} {zN : Nat} {zF : Int32} {zQ : Int64} {L : va_W} (h : az_Sh g ad zG zO zX zY zA zB zM zI zL zK zN zF zQ L) {j : Nat} (hj : j < 4) : L[3 + 16 * j + 7]? = some (aw_c ad j 7, .inr (5, [.ref (aw_c ad j 8), .ref (aw_c ad j 9)])) := by
  obtain ⟨e, he, hs⟩ := h.1 j 7 hj (by decide)
  have hs : e = .inr (5, [.ref (aw_c ad j 8), .ref (aw_c ad j 9)]) := hs
  rw [hs] at he; exact he
theorem zr_C8 {g : Nat → ClassId} {ad : Nat → Nat} {zG : Nat → Nat × Nat} {zO : Nat → Nat} {zX : Nat → Nat → Int64} {zY : Nat → Nat → Int32} {zA : Nat → Nat → Nat → Int32} {zB : Nat → Int32} {zM : Nat → Nat × Nat} {zI : Nat → Nat → Int32} {zL : Nat → Nat → Int64} {zK : Int32} {zN : Nat} {zF : Int32} {zQ : Int64} {L : va_W} (h : az_Sh g ad zG zO zX zY zA zB zM zI zL zK zN zF zQ L) {j : Nat} (hj : j < 4) : L[3 + 16 * j + 8]? = some (aw_c ad j 8, .inl (g 0, 27, .inl (zA j 8))) := by
  obtain ⟨e, he, hs⟩ := h.1 j 8 hj (by decide)
  have hs : e = .inl (g 0, 27, .inl (zA j 8)) := hs
  rw [hs] at he; exact he
theorem zr_C9 {g : Nat → ClassId} {ad : Nat → Nat} {zG : Nat → Nat × Nat} {zO : Nat → Nat} {zX : Nat → Nat → Int64} {zY : Nat → Nat → Int32} {zA : Nat → Nat → Nat → Int32} {zB : Nat → Int32} {zM : Nat → Nat × Nat} {zI : Nat → Nat → Int32} {zL : Nat → Nat → Int64} {zK : Int32} {zN : Nat} {zF : Int32} {zQ : Int64} {L : va_W} (h : az_Sh g ad zG zO zX zY zA zB zM zI zL zK zN zF zQ L) {j : Nat} (hj : j < 4) : L[3 + 16 * j + 9]? = some (aw_c ad j 9, .inl (g 0, 3, .inl (zA j 9))) := by
  obtain ⟨e, he, hs⟩ := h.1 j 9 hj (by decide)
  have hs : e = .inl (g 0, 3, .inl (zA j 9)) := hs
  rw [hs] at he; exact he
theorem zr_M0 {g : Nat → ClassId} {ad : Nat → Nat} {zG : Nat → Nat × Nat} {zO : Nat → Nat} {zX : Nat → Nat → Int64} {zY : Nat → Nat → Int32} {zA : Nat → Nat → Nat → Int32} {zB : Nat → Int32} {zM : Nat → Nat × Nat} {zI : Nat → Nat → Int32} {zL : Nat → Nat → Int64} {zK : Int32} {zN : Nat} {zF : Int32} {zQ : Int64} {L : va_W} (h : az_Sh g ad zG zO zX zY zA zB zM zI zL zK zN zF zQ L) : zN ≤ 52 ∧ L[67]? = some (aw_m ad 0, .inr (8, [.int zF, .ref (aw_m ad 1), .ref (aw_m ad 2), .ref (aw_m ad 3), .ref (aw_m ad 4), .ref (aw_m ad 5), .ref (aw_m ad 6), .ref (aw_m ad 7), .ref (aw_m ad 8), .ref (aw_m ad 9), .ref (aw_m ad 10), .ref (aw_m ad 11), .ref (aw_m ad 12), .ref (aw_m ad 13), .ref (aw_m ad 14), .int zK, .int (nI zN), .ref (aw_m ad 15), .ref (aw_m ad 16)])) := by
  obtain ⟨e, he, hs⟩ := h.2.2.1 0 (by decide)
  have hs : zN ≤ 52 ∧ e = .inr (8, [.int zF, .ref (aw_m ad 1), .ref (aw_m ad 2), .ref (aw_m ad 3), .ref (aw_m ad 4), .ref (aw_m ad 5), .ref (aw_m ad 6), .ref (aw_m ad 7), .ref (aw_m ad 8), .ref (aw_m ad 9), .ref (aw_m ad 10), .ref (aw_m ad 11), .ref (aw_m ad 12), .ref (aw_m ad 13), .ref (aw_m ad 14), .int zK, .int (nI zN), .ref (aw_m ad 15), .ref (aw_m ad 16)]) := hs
  exact ⟨hs.1, by rw [hs.2] at he; exact he⟩
theorem zr_M1 {g : Nat → ClassId} {ad : Nat → Nat} {zG : Nat → Nat × Nat} {zO : Nat → Nat} {zX : Nat → Nat → Int64} {zY : Nat → Nat → Int32} {zA : Nat → Nat → Nat → Int32} {zB : Nat → Int32} {zM : Nat → Nat × Nat} {zI : Nat → Nat → Int32} {zL : Nat → Nat → Int64} {zK : Int32} {zN : Nat} {zF : Int32} {zQ : Int64} {L : va_W} (h : az_Sh g ad zG zO zX zY zA zB zM zI zL zK zN zF zQ L) : L[68]? = some (aw_m ad 1, .inl (g 0, 64, .inl (zI 1))) := by
  obtain ⟨e, he, hs⟩ := h.2.2.1 1 (by decide)
  have hs : e = .inl (g 0, 64, .inl (zI 1)) := hs
  rw [hs] at he; exact he
theorem zr_M10 {g : Nat → ClassId} {ad : Nat → Nat} {zG : Nat → Nat × Nat} {zO : Nat → Nat} {zX : Nat → Nat → Int64} {zY : Nat → Nat → Int32} {zA : Nat → Nat → Nat → Int32} {zB : Nat → Int32} {zM : Nat → Nat × Nat} {zI : Nat → Nat → Int32} {zL : Nat → Nat → Int64} {zK : Int32} {zN : Nat} {zF : Int32} {zQ : Int64} {L : va_W} (h : az_Sh g ad zG zO zX zY zA zB zM zI zL zK zN zF zQ L) : L[77]? = some (aw_m ad 10, .inl (g 0, 4, .inl (zI 10))) := by
  obtain ⟨e, he, hs⟩ := h.2.2.1 10 (by decide)
  have hs : e = .inl (g 0, 4, .inl (zI 10)) := hs
  rw [hs] at he; exact he
theorem zr_M11 {g : Nat → ClassId} {ad : Nat → Nat} {zG : Nat → Nat × Nat} {zO : Nat → Nat} {zX : Nat → Nat → Int64} {zY : Nat → Nat → Int32} {zA : Nat → Nat → Nat → Int32} {zB : Nat → Int32} {zM : Nat → Nat × Nat} {zI : Nat → Nat → Int32} {zL : Nat → Nat → Int64} {zK : Int32} {zN : Nat} {zF : Int32} {zQ : Int64} {L : va_W} (h : az_Sh g ad zG zO zX zY zA zB zM zI zL zK zN zF zQ L) : L[78]? = some (aw_m ad 11, .inl (g 0, 4, .inl (zI 11))) := by
  obtain ⟨e, he, hs⟩ := h.2.2.1 11 (by decide)
  have hs : e = .inl (g 0, 4, .inl (zI 11)) := hs
  rw [hs] at he; exact he
theorem zr_M12 {g : Nat → ClassId} {ad : Nat → Nat} {zG : Nat → Nat × Nat} {zO : Nat → Nat} {zX : Nat → Nat → Int64} {zY : Nat → Nat → Int32} {zA : Nat → Nat → Nat → Int32} {zB : Nat → Int32} {zM : Nat → Nat × Nat} {zI : Nat → Nat → Int32} {zL : Nat → Nat → Int64} {zK : Int32} {zN : Nat} {zF : Int32} {zQ : Int64} {L : va_W} (h : az_Sh g ad zG zO zX zY zA zB zM zI zL zK zN zF zQ L) : L[79]? = some (aw_m ad 12, .inl (g 1, 4, .inr (.inl (zL 12)))) := by
  obtain ⟨e, he, hs⟩ := h.2.2.1 12 (by decide)
  have hs : e = .inl (g 1, 4, .inr (.inl (zL 12))) := hs
  rw [hs] at he; exact he
theorem zr_M13 {g : Nat → ClassId} {ad : Nat → Nat} {zG : Nat → Nat × Nat} {zO : Nat → Nat} {zX : Nat → Nat → Int64} {zY : Nat → Nat → Int32} {zA : Nat → Nat → Nat → Int32} {zB : Nat → Int32} {zM : Nat → Nat × Nat} {zI : Nat → Nat → Int32} {zL : Nat → Nat → Int64} {zK : Int32} {zN : Nat} {zF : Int32} {zQ : Int64} {L : va_W} (h : az_Sh g ad zG zO zX zY zA zB zM zI zL zK zN zF zQ L) : L[80]? = some (aw_m ad 13, .inl (g 1, 4, .inr (.inl (zL 13)))) := by
  obtain ⟨e, he, hs⟩ := h.2.2.1 13 (by decide)
  have hs : e = .inl (g 1, 4, .inr (.inl (zL 13))) := hs
  rw [hs] at he; exact he
theorem zr_M14 {g : Nat → ClassId} {ad : Nat → Nat} {zG : Nat → Nat × Nat} {zO : Nat → Nat} {zX : Nat → Nat → Int64} {zY : Nat → Nat → Int32} {zA : Nat → Nat → Nat → Int32} {zB : Nat → Int32} {zM : Nat → Nat × Nat} {zI : Nat → Nat → Int32} {zL : Nat → Nat → Int64} {zK : Int32} {zN : Nat} {zF : Int32} {zQ : Int64} {L : va_W} (h : az_Sh g ad zG zO zX zY zA zB zM zI zL zK zN zF zQ L) : L[81]? = some (aw_m ad 14, .inl (g 0, 4, .inl (zI 14))) := by
  obtain ⟨e, he, hs⟩ := h.2.2.1 14 (by decide)
  have hs : e = .inl (g 0, 4, .inl (zI 14)) := hs
  rw [hs] at he; exact he
theorem zr_M15 {g : Nat → ClassId} {ad : Nat → Nat} {zG : Nat → Nat × Nat} {zO : Nat → Nat} {zX : Nat → Nat → Int64} {zY : Nat → Nat → Int32} {zA : Nat → Nat → Nat → Int32} {zB : Nat → Int32} {zM : Nat → Nat × Nat} {zI : Nat → Nat → Int32} {zL : Nat → Nat → Int64} {zK : Int32} {zN : Nat} {zF : Int32} {zQ : Int64} {L : va_W} (h : az_Sh g ad zG zO zX zY zA zB zM zI zL zK zN zF zQ L) : L[82]? = some (aw_m ad 15, .inl (g 0, 52, .inl (zI 15))) := by
  obtain ⟨e, he, hs⟩ := h.2.2.1 15 (by decide)
  have hs : e = .inl (g 0, 52, .inl (zI 15)) := hs
  rw [hs] at he; exact he
theorem zr_M16 {g : Nat → ClassId} {ad : Nat → Nat} {zG : Nat → Nat × Nat} {zO : Nat → Nat} {zX : Nat → Nat → Int64} {zY : Nat → Nat → Int32} {zA : Nat → Nat → Nat → Int32} {zB : Nat → Int32} {zM : Nat → Nat × Nat} {zI : Nat → Nat → Int32} {zL : Nat → Nat → Int64} {zK : Int32} {zN : Nat} {zF : Int32} {zQ : Int64} {L : va_W} (h : az_Sh g ad zG zO zX zY zA zB zM zI zL zK zN zF zQ L) : L[83]? = some (aw_m ad 16, .inl (g 0, 32, .inl (zI 16))) := by
  obtain ⟨e, he, hs⟩ := h.2.2.1 16 (by decide)
  have hs : e = .inl (g 0, 32, .inl (zI 16)) := hs
  rw [hs] at he; exact he
theorem zr_M2 {g : Nat → ClassId} {ad : Nat → Nat} {zG : Nat → Nat × Nat} {zO : Nat → Nat} {zX : Nat → Nat → Int64} {zY : Nat → Nat → Int32} {zA : Nat → Nat → Nat → Int32} {zB : Nat → Int32} {zM : Nat → Nat × Nat} {zI : Nat → Nat → Int32} {zL : Nat → Nat → Int64} {zK : Int32} {zN : Nat} {zF : Int32} {zQ : Int64} {L : va_W} (h : az_Sh g ad zG zO zX zY zA zB zM zI zL zK zN zF zQ L) : (∀ k, k < 4 → zI 2 k = nI (zM k).1) ∧ L[69]? = some (aw_m ad 2, .inl (g 0, 4, .inl (zI 2))) := by
  obtain ⟨e, he, hs⟩ := h.2.2.1 2 (by decide)
  have hs : (∀ k, k < 4 → zI 2 k = nI (zM k).1) ∧ e = .inl (g 0, 4, .inl (zI 2)) := hs
  exact ⟨hs.1, by rw [hs.2] at he; exact he⟩
theorem zr_M3 {g : Nat → ClassId} {ad : Nat → Nat} {zG : Nat → Nat × Nat} {zO : Nat → Nat} {zX : Nat → Nat → Int64} {zY : Nat → Nat → Int32} {zA : Nat → Nat → Nat → Int32} {zB : Nat → Int32} {zM : Nat → Nat × Nat} {zI : Nat → Nat → Int32} {zL : Nat → Nat → Int64} {zK : Int32} {zN : Nat} {zF : Int32} {zQ : Int64} {L : va_W} (h : az_Sh g ad zG zO zX zY zA zB zM zI zL zK zN zF zQ L) : L[70]? = some (aw_m ad 3, .inl (g 0, 4, .inl (zI 3))) := by
  obtain ⟨e, he, hs⟩ := h.2.2.1 3 (by decide)
  have hs : e = .inl (g 0, 4, .inl (zI 3)) := hs
  rw [hs] at he; exact he
theorem zr_M4 {g : Nat → ClassId} {ad : Nat → Nat} {zG : Nat → Nat × Nat} {zO : Nat → Nat} {zX : Nat → Nat → Int64} {zY : Nat → Nat → Int32} {zA : Nat → Nat → Nat → Int32} {zB : Nat → Int32} {zM : Nat → Nat × Nat} {zI : Nat → Nat → Int32} {zL : Nat → Nat → Int64} {zK : Int32} {zN : Nat} {zF : Int32} {zQ : Int64} {L : va_W} (h : az_Sh g ad zG zO zX zY zA zB zM zI zL zK zN zF zQ L) : L[71]? = some (aw_m ad 4, .inl (g 1, 4, .inr (.inl (zL 4)))) := by
  obtain ⟨e, he, hs⟩ := h.2.2.1 4 (by decide)
  have hs : e = .inl (g 1, 4, .inr (.inl (zL 4))) := hs
  rw [hs] at he; exact he
theorem zr_M5 {g : Nat → ClassId} {ad : Nat → Nat} {zG : Nat → Nat × Nat} {zO : Nat → Nat} {zX : Nat → Nat → Int64} {zY : Nat → Nat → Int32} {zA : Nat → Nat → Nat → Int32} {zB : Nat → Int32} {zM : Nat → Nat × Nat} {zI : Nat → Nat → Int32} {zL : Nat → Nat → Int64} {zK : Int32} {zN : Nat} {zF : Int32} {zQ : Int64} {L : va_W} (h : az_Sh g ad zG zO zX zY zA zB zM zI zL zK zN zF zQ L) : L[72]? = some (aw_m ad 5, .inl (g 1, 4, .inr (.inl (zL 5)))) := by
  obtain ⟨e, he, hs⟩ := h.2.2.1 5 (by decide)
  have hs : e = .inl (g 1, 4, .inr (.inl (zL 5))) := hs
  rw [hs] at he; exact he
theorem zr_M6 {g : Nat → ClassId} {ad : Nat → Nat} {zG : Nat → Nat × Nat} {zO : Nat → Nat} {zX : Nat → Nat → Int64} {zY : Nat → Nat → Int32} {zA : Nat → Nat → Nat → Int32} {zB : Nat → Int32} {zM : Nat → Nat × Nat} {zI : Nat → Nat → Int32} {zL : Nat → Nat → Int64} {zK : Int32} {zN : Nat} {zF : Int32} {zQ : Int64} {L : va_W} (h : az_Sh g ad zG zO zX zY zA zB zM zI zL zK zN zF zQ L) : (∀ k, k < 4 → zI 6 k = nI (zM k).2) ∧ L[73]? = some (aw_m ad 6, .inl (g 0, 4, .inl (zI 6))) := by
  obtain ⟨e, he, hs⟩ := h.2.2.1 6 (by decide)
  have hs : (∀ k, k < 4 → zI 6 k = nI (zM k).2) ∧ e = .inl (g 0, 4, .inl (zI 6)) := hs
  exact ⟨hs.1, by rw [hs.2] at he; exact he⟩
theorem zr_M7 {g : Nat → ClassId} {ad : Nat → Nat} {zG : Nat → Nat × Nat} {zO : Nat → Nat} {zX : Nat → Nat → Int64} {zY : Nat → Nat → Int32} {zA : Nat → Nat → Nat → Int32} {zB : Nat → Int32} {zM : Nat → Nat × Nat} {zI : Nat → Nat → Int32} {zL : Nat → Nat → Int64} {zK : Int32} {zN : Nat} {zF : Int32} {zQ : Int64} {L : va_W} (h : az_Sh g ad zG zO zX zY zA zB zM zI zL zK zN zF zQ L) : L[74]? = some (aw_m ad 7, .inl (g 1, 4, .inr (.inl (zL 7)))) := by
  obtain ⟨e, he, hs⟩ := h.2.2.1 7 (by decide)
  have hs : e = .inl (g 1, 4, .inr (.inl (zL 7))) := hs
  rw [hs] at he; exact he
theorem zr_M8 {g : Nat → ClassId} {ad : Nat → Nat} {zG : Nat → Nat × Nat} {zO : Nat → Nat} {zX : Nat → Nat → Int64} {zY : Nat → Nat → Int32} {zA : Nat → Nat → Nat → Int32} {zB : Nat → Int32} {zM : Nat → Nat × Nat} {zI : Nat → Nat → Int32} {zL : Nat → Nat → Int64} {zK : Int32} {zN : Nat} {zF : Int32} {zQ : Int64} {L : va_W} (h : az_Sh g ad zG zO zX zY zA zB zM zI zL zK zN zF zQ L) : L[75]? = some (aw_m ad 8, .inl (g 1, 4, .inr (.inl (zL 8)))) := by
  obtain ⟨e, he, hs⟩ := h.2.2.1 8 (by decide)
  have hs : e = .inl (g 1, 4, .inr (.inl (zL 8))) := hs
  rw [hs] at he; exact he
theorem zr_M9 {g : Nat → ClassId} {ad : Nat → Nat} {zG : Nat → Nat × Nat} {zO : Nat → Nat} {zX : Nat → Nat → Int64} {zY : Nat → Nat → Int32} {zA : Nat → Nat → Nat → Int32} {zB : Nat → Int32} {zM : Nat → Nat × Nat} {zI : Nat → Nat → Int32} {zL : Nat → Nat → Int64} {zK : Int32} {zN : Nat} {zF : Int32} {zQ : Int64} {L : va_W} (h : az_Sh g ad zG zO zX zY zA zB zM zI zL zK zN zF zQ L) : L[76]? = some (aw_m ad 9, .inl (g 0, 4, .inl (zI 9))) := by
  obtain ⟨e, he, hs⟩ := h.2.2.1 9 (by decide)
  have hs : e = .inl (g 0, 4, .inl (zI 9)) := hs
  rw [hs] at he; exact he
theorem zr_R0 {g : Nat → ClassId} {ad : Nat → Nat} {zG : Nat → Nat × Nat} {zO : Nat → Nat} {zX : Nat → Nat → Int64} {zY : Nat → Nat → Int32} {zA : Nat → Nat → Nat → Int32} {zB : Nat → Int32} {zM : Nat → Nat × Nat} {zI : Nat → Nat → Int32} {zL : Nat → Nat → Int64} {zK : Int32} {zN : Nat} {zF : Int32} {zQ : Int64} {L : va_W} (h : az_Sh g ad zG zO zX zY zA zB zM zI zL zK zN zF zQ L) : L[0]? = some (aw_r ad 0, .inr (0, [.ref (aw_r ad 1), .ref (aw_r ad 2)])) := by
  obtain ⟨e, he, hs⟩ := h.2.1 0 (by decide)
  have hs : e = .inr (0, [.ref (aw_r ad 1), .ref (aw_r ad 2)]) := hs
  rw [hs] at he; exact he
theorem zr_R1 {g : Nat → ClassId} {ad : Nat → Nat} {zG : Nat → Nat × Nat} {zO : Nat → Nat} {zX : Nat → Nat → Int64} {zY : Nat → Nat → Int32} {zA : Nat → Nat → Nat → Int32} {zB : Nat → Int32} {zM : Nat → Nat × Nat} {zI : Nat → Nat → Int32} {zL : Nat → Nat → Int64} {zK : Int32} {zN : Nat} {zF : Int32} {zQ : Int64} {L : va_W} (h : az_Sh g ad zG zO zX zY zA zB zM zI zL zK zN zF zQ L) : ∃ f : Nat → Option Nat, (∀ k, k < 4 → f k = some (aw_c ad k 0)) ∧ L[1]? = some (aw_r ad 1, .inl (g 3, 4, .inr (.inr (.inr (.inr f))))) := by
  obtain ⟨e, he, hs⟩ := h.2.1 1 (by decide)
  have hs : ∃ f : Nat → Option Nat, (∀ k, k < 4 → f k = some (aw_c ad k 0)) ∧ e = .inl (g 3, 4, .inr (.inr (.inr (.inr f)))) := hs
  obtain ⟨f, hc, hs⟩ := hs
  exact ⟨f, hc, by rw [hs] at he; exact he⟩
theorem zr_R2 {g : Nat → ClassId} {ad : Nat → Nat} {zG : Nat → Nat × Nat} {zO : Nat → Nat} {zX : Nat → Nat → Int64} {zY : Nat → Nat → Int32} {zA : Nat → Nat → Nat → Int32} {zB : Nat → Int32} {zM : Nat → Nat × Nat} {zI : Nat → Nat → Int32} {zL : Nat → Nat → Int64} {zK : Int32} {zN : Nat} {zF : Int32} {zQ : Int64} {L : va_W} (h : az_Sh g ad zG zO zX zY zA zB zM zI zL zK zN zF zQ L) : L[2]? = some (aw_r ad 2, .inl (g 0, 64, .inl zB)) := by
  obtain ⟨e, he, hs⟩ := h.2.1 2 (by decide)
  have hs : e = .inl (g 0, 64, .inl zB) := hs
  rw [hs] at he; exact he
theorem zr_O0 {g : Nat → ClassId} {ad : Nat → Nat} {zG : Nat → Nat × Nat} {zO : Nat → Nat} {zX : Nat → Nat → Int64} {zY : Nat → Nat → Int32} {zA : Nat → Nat → Nat → Int32} {zB : Nat → Int32} {zM : Nat → Nat × Nat} {zI : Nat → Nat → Int32} {zL : Nat → Nat → Int64} {zK : Int32} {zN : Nat} {zF : Int32} {zQ : Int64} {L : va_W} (h : az_Sh g ad zG zO zX zY zA zB zM zI zL zK zN zF zQ L) : ∃ f : Nat → Int64, f 0 = zQ ∧ L[84]? = some (aw_o ad, .inl (g 1, 1, .inr (.inl f))) := h.2.2.2.1
theorem zw_A3 {g : Nat → ClassId} {ad : Nat → Nat} {zG : Nat → Nat × Nat} {zO : Nat → Nat} {zX : Nat → Nat → Int64} {zY : Nat → Nat → Int32} {zA : Nat → Nat → Nat → Int32} {zB : Nat → Int32} {zM : Nat → Nat × Nat} {zI : Nat → Nat → Int32} {zL : Nat → Nat → Int64} {zK : Int32} {zN : Nat} {zF : Int32} {zQ : Int64} {L : va_W} (h : az_Sh g ad zG zO zX zY zA zB zM zI zL zK zN zF zQ L) {j : Nat} (hj : j < 4) (f : Nat → Int32) : az_Sh g ad zG zO zX zY (az_u2 zA j 3 f) zB zM zI zL zK zN zF zQ (L.set (3 + 16 * j + 3) (aw_c ad j 3, .inl (g 0, 26, .inl f))) := az_setC (i := 3) h hj (by decide) (show az_shC g ad zG zO zX zY (az_u2 zA j 3 f) j 3 _ from (by show _ = _; rw [show az_u2 zA j 3 f j 3 = f from if_pos ⟨rfl, rfl⟩])) az_kA3 h.2.2.2.2.1
theorem zw_A3w {g : Nat → ClassId} {ad : Nat → Nat} {zG : Nat → Nat × Nat} {zO : Nat → Nat} {zX : Nat → Nat → Int64} {zY : Nat → Nat → Int32} {zA : Nat → Nat → Nat → Int32} {zB : Nat → Int32} {zM : Nat → Nat × Nat} {zI : Nat → Nat → Int32} {zL : Nat → Nat → Int64} {zK : Int32} {zN : Nat} {zF : Int32} {zQ : Int64} {L : va_W} (h : az_Sh g ad zG zO zX zY zA zB zM zI zL zK zN zF zQ L) {j : Nat} (hj : j < 4) (k : Nat) (x : Int32) : az_Sh g ad zG zO zX zY (az_w zA j 3 k x) zB zM zI zL zK zN zF zQ (L.set (3 + 16 * j + 3) (aw_c ad j 3, .inl (g 0, 26, .inl (upd (zA j 3) k x)))) := zw_A3 h hj (upd (zA j 3) k x)
theorem zw_A4 {g : Nat → ClassId} {ad : Nat → Nat} {zG : Nat → Nat × Nat} {zO : Nat → Nat} {zX : Nat → Nat → Int64} {zY : Nat → Nat → Int32} {zA : Nat → Nat → Nat → Int32} {zB : Nat → Int32} {zM : Nat → Nat × Nat} {zI : Nat → Nat → Int32} {zL : Nat → Nat → Int64} {zK : Int32} {zN : Nat} {zF : Int32} {zQ : Int64} {L : va_W} (h : az_Sh g ad zG zO zX zY zA zB zM zI zL zK zN zF zQ L) {j : Nat} (hj : j < 4) (f : Nat → Int32) : az_Sh g ad zG zO zX zY (az_u2 zA j 4 f) zB zM zI zL zK zN zF zQ (L.set (3 + 16 * j + 4) (aw_c ad j 4, .inl (g 0, 4, .inl f))) := az_setC (i := 4) h hj (by decide) (show az_shC g ad zG zO zX zY (az_u2 zA j 4 f) j 4 _ from (by show _ = _; rw [show az_u2 zA j 4 f j 4 = f from if_pos ⟨rfl, rfl⟩])) az_kA4 h.2.2.2.2.1
theorem zw_A4w {g : Nat → ClassId} {ad : Nat → Nat} {zG : Nat → Nat × Nat} {zO : Nat → Nat} {zX : Nat → Nat → Int64} {zY : Nat → Nat → Int32} {zA : Nat → Nat → Nat → Int32} {zB : Nat → Int32} {zM : Nat → Nat × Nat} {zI : Nat → Nat → Int32} {zL : Nat → Nat → Int64} {zK : Int32} {zN : Nat} {zF : Int32} {zQ : Int64} {L : va_W} (h : az_Sh g ad zG zO zX zY zA zB zM zI zL zK zN zF zQ L) {j : Nat} (hj : j < 4) (k : Nat) (x : Int32) : az_Sh g ad zG zO zX zY (az_w zA j 4 k x) zB zM zI zL zK zN zF zQ (L.set (3 + 16 * j + 4) (aw_c ad j 4, .inl (g 0, 4, .inl (upd (zA j 4) k x)))) := zw_A4 h hj (upd (zA j 4) k x)
theorem zw_A6 {g : Nat → ClassId} {ad : Nat → Nat} {zG : Nat → Nat × Nat} {zO : Nat → Nat} {zX : Nat → Nat → Int64} {zY : Nat → Nat → Int32} {zA : Nat → Nat → Nat → Int32} {zB : Nat → Int32} {zM : Nat → Nat × Nat} {zI : Nat → Nat → Int32} {zL : Nat → Nat → Int64} {zK : Int32} {zN : Nat} {zF : Int32} {zQ : Int64} {L : va_W} (h : az_Sh g ad zG zO zX zY zA zB zM zI zL zK zN zF zQ L) {j : Nat} (hj : j < 4) (f : Nat → Int32) : az_Sh g ad zG zO zX zY (az_u2 zA j 6 f) zB zM zI zL zK zN zF zQ (L.set (3 + 16 * j + 6) (aw_c ad j 6, .inl (g 0, 4, .inl f))) := az_setC (i := 6) h hj (by decide) (show az_shC g ad zG zO zX zY (az_u2 zA j 6 f) j 6 _ from (by show _ = _; rw [show az_u2 zA j 6 f j 6 = f from if_pos ⟨rfl, rfl⟩])) az_kA6 h.2.2.2.2.1
theorem zw_A6w {g : Nat → ClassId} {ad : Nat → Nat} {zG : Nat → Nat × Nat} {zO : Nat → Nat} {zX : Nat → Nat → Int64} {zY : Nat → Nat → Int32} {zA : Nat → Nat → Nat → Int32} {zB : Nat → Int32} {zM : Nat → Nat × Nat} {zI : Nat → Nat → Int32} {zL : Nat → Nat → Int64} {zK : Int32} {zN : Nat} {zF : Int32} {zQ : Int64} {L : va_W} (h : az_Sh g ad zG zO zX zY zA zB zM zI zL zK zN zF zQ L) {j : Nat} (hj : j < 4) (k : Nat) (x : Int32) : az_Sh g ad zG zO zX zY (az_w zA j 6 k x) zB zM zI zL zK zN zF zQ (L.set (3 + 16 * j + 6) (aw_c ad j 6, .inl (g 0, 4, .inl (upd (zA j 6) k x)))) := zw_A6 h hj (upd (zA j 6) k x)
theorem zw_A8 {g : Nat → ClassId} {ad : Nat → Nat} {zG : Nat → Nat × Nat} {zO : Nat → Nat} {zX : Nat → Nat → Int64} {zY : Nat → Nat → Int32} {zA : Nat → Nat → Nat → Int32} {zB : Nat → Int32} {zM : Nat → Nat × Nat} {zI : Nat → Nat → Int32} {zL : Nat → Nat → Int64} {zK : Int32} {zN : Nat} {zF : Int32} {zQ : Int64} {L : va_W} (h : az_Sh g ad zG zO zX zY zA zB zM zI zL zK zN zF zQ L) {j : Nat} (hj : j < 4) (f : Nat → Int32) : az_Sh g ad zG zO zX zY (az_u2 zA j 8 f) zB zM zI zL zK zN zF zQ (L.set (3 + 16 * j + 8) (aw_c ad j 8, .inl (g 0, 27, .inl f))) := az_setC (i := 8) h hj (by decide) (show az_shC g ad zG zO zX zY (az_u2 zA j 8 f) j 8 _ from (by show _ = _; rw [show az_u2 zA j 8 f j 8 = f from if_pos ⟨rfl, rfl⟩])) az_kA8 h.2.2.2.2.1
theorem zw_A8w {g : Nat → ClassId} {ad : Nat → Nat} {zG : Nat → Nat × Nat} {zO : Nat → Nat} {zX : Nat → Nat → Int64} {zY : Nat → Nat → Int32} {zA : Nat → Nat → Nat → Int32} {zB : Nat → Int32} {zM : Nat → Nat × Nat} {zI : Nat → Nat → Int32} {zL : Nat → Nat → Int64} {zK : Int32} {zN : Nat} {zF : Int32} {zQ : Int64} {L : va_W} (h : az_Sh g ad zG zO zX zY zA zB zM zI zL zK zN zF zQ L) {j : Nat} (hj : j < 4) (k : Nat) (x : Int32) : az_Sh g ad zG zO zX zY (az_w zA j 8 k x) zB zM zI zL zK zN zF zQ (L.set (3 + 16 * j + 8) (aw_c ad j 8, .inl (g 0, 27, .inl (upd (zA j 8) k x)))) := zw_A8 h hj (upd (zA j 8) k x)
theorem zw_A9 {g : Nat → ClassId} {ad : Nat → Nat} {zG : Nat → Nat × Nat} {zO : Nat → Nat} {zX : Nat → Nat → Int64} {zY : Nat → Nat → Int32} {zA : Nat → Nat → Nat → Int32} {zB : Nat → Int32} {zM : Nat → Nat × Nat} {zI : Nat → Nat → Int32} {zL : Nat → Nat → Int64} {zK : Int32} {zN : Nat} {zF : Int32} {zQ : Int64} {L : va_W} (h : az_Sh g ad zG zO zX zY zA zB zM zI zL zK zN zF zQ L) {j : Nat} (hj : j < 4) (f : Nat → Int32) : az_Sh g ad zG zO zX zY (az_u2 zA j 9 f) zB zM zI zL zK zN zF zQ (L.set (3 + 16 * j + 9) (aw_c ad j 9, .inl (g 0, 3, .inl f))) := az_setC (i := 9) h hj (by decide) (show az_shC g ad zG zO zX zY (az_u2 zA j 9 f) j 9 _ from (by show _ = _; rw [show az_u2 zA j 9 f j 9 = f from if_pos ⟨rfl, rfl⟩])) az_kA9 h.2.2.2.2.1
theorem zw_A9w {g : Nat → ClassId} {ad : Nat → Nat} {zG : Nat → Nat × Nat} {zO : Nat → Nat} {zX : Nat → Nat → Int64} {zY : Nat → Nat → Int32} {zA : Nat → Nat → Nat → Int32} {zB : Nat → Int32} {zM : Nat → Nat × Nat} {zI : Nat → Nat → Int32} {zL : Nat → Nat → Int64} {zK : Int32} {zN : Nat} {zF : Int32} {zQ : Int64} {L : va_W} (h : az_Sh g ad zG zO zX zY zA zB zM zI zL zK zN zF zQ L) {j : Nat} (hj : j < 4) (k : Nat) (x : Int32) : az_Sh g ad zG zO zX zY (az_w zA j 9 k x) zB zM zI zL zK zN zF zQ (L.set (3 + 16 * j + 9) (aw_c ad j 9, .inl (g 0, 3, .inl (upd (zA j 9) k x)))) := zw_A9 h hj (upd (zA j 9) k x)
theorem zw_A11 {g : Nat → ClassId} {ad : Nat → Nat} {zG : Nat → Nat × Nat} {zO : Nat → Nat} {zX : Nat → Nat → Int64} {zY : Nat → Nat → Int32} {zA : Nat → Nat → Nat → Int32} {zB : Nat → Int32} {zM : Nat → Nat × Nat} {zI : Nat → Nat → Int32} {zL : Nat → Nat → Int64} {zK : Int32} {zN : Nat} {zF : Int32} {zQ : Int64} {L : va_W} (h : az_Sh g ad zG zO zX zY zA zB zM zI zL zK zN zF zQ L) {j : Nat} (hj : j < 4) (f : Nat → Int32) : az_Sh g ad zG zO zX zY (az_u2 zA j 11 f) zB zM zI zL zK zN zF zQ (L.set (3 + 16 * j + 11) (aw_c ad j 11, .inl (g 0, 44, .inl f))) := az_setC (i := 11) h hj (by decide) (show az_shC g ad zG zO zX zY (az_u2 zA j 11 f) j 11 _ from (by show _ = _; rw [show az_u2 zA j 11 f j 11 = f from if_pos ⟨rfl, rfl⟩])) az_kA11 h.2.2.2.2.1
theorem zw_A11w {g : Nat → ClassId} {ad : Nat → Nat} {zG : Nat → Nat × Nat} {zO : Nat → Nat} {zX : Nat → Nat → Int64} {zY : Nat → Nat → Int32} {zA : Nat → Nat → Nat → Int32} {zB : Nat → Int32} {zM : Nat → Nat × Nat} {zI : Nat → Nat → Int32} {zL : Nat → Nat → Int64} {zK : Int32} {zN : Nat} {zF : Int32} {zQ : Int64} {L : va_W} (h : az_Sh g ad zG zO zX zY zA zB zM zI zL zK zN zF zQ L) {j : Nat} (hj : j < 4) (k : Nat) (x : Int32) : az_Sh g ad zG zO zX zY (az_w zA j 11 k x) zB zM zI zL zK zN zF zQ (L.set (3 + 16 * j + 11) (aw_c ad j 11, .inl (g 0, 44, .inl (upd (zA j 11) k x)))) := zw_A11 h hj (upd (zA j 11) k x)
theorem zw_A13 {g : Nat → ClassId} {ad : Nat → Nat} {zG : Nat → Nat × Nat} {zO : Nat → Nat} {zX : Nat → Nat → Int64} {zY : Nat → Nat → Int32} {zA : Nat → Nat → Nat → Int32} {zB : Nat → Int32} {zM : Nat → Nat × Nat} {zI : Nat → Nat → Int32} {zL : Nat → Nat → Int64} {zK : Int32} {zN : Nat} {zF : Int32} {zQ : Int64} {L : va_W} (h : az_Sh g ad zG zO zX zY zA zB zM zI zL zK zN zF zQ L) {j : Nat} (hj : j < 4) (f : Nat → Int32) : az_Sh g ad zG zO zX zY (az_u2 zA j 13 f) zB zM zI zL zK zN zF zQ (L.set (3 + 16 * j + 13) (aw_c ad j 13, .inl (g 0, 52, .inl f))) := az_setC (i := 13) h hj (by decide) (show az_shC g ad zG zO zX zY (az_u2 zA j 13 f) j 13 _ from (by show _ = _; rw [show az_u2 zA j 13 f j 13 = f from if_pos ⟨rfl, rfl⟩])) az_kA13 h.2.2.2.2.1
theorem zw_A13w {g : Nat → ClassId} {ad : Nat → Nat} {zG : Nat → Nat × Nat} {zO : Nat → Nat} {zX : Nat → Nat → Int64} {zY : Nat → Nat → Int32} {zA : Nat → Nat → Nat → Int32} {zB : Nat → Int32} {zM : Nat → Nat × Nat} {zI : Nat → Nat → Int32} {zL : Nat → Nat → Int64} {zK : Int32} {zN : Nat} {zF : Int32} {zQ : Int64} {L : va_W} (h : az_Sh g ad zG zO zX zY zA zB zM zI zL zK zN zF zQ L) {j : Nat} (hj : j < 4) (k : Nat) (x : Int32) : az_Sh g ad zG zO zX zY (az_w zA j 13 k x) zB zM zI zL zK zN zF zQ (L.set (3 + 16 * j + 13) (aw_c ad j 13, .inl (g 0, 52, .inl (upd (zA j 13) k x)))) := zw_A13 h hj (upd (zA j 13) k x)
theorem zw_A14 {g : Nat → ClassId} {ad : Nat → Nat} {zG : Nat → Nat × Nat} {zO : Nat → Nat} {zX : Nat → Nat → Int64} {zY : Nat → Nat → Int32} {zA : Nat → Nat → Nat → Int32} {zB : Nat → Int32} {zM : Nat → Nat × Nat} {zI : Nat → Nat → Int32} {zL : Nat → Nat → Int64} {zK : Int32} {zN : Nat} {zF : Int32} {zQ : Int64} {L : va_W} (h : az_Sh g ad zG zO zX zY zA zB zM zI zL zK zN zF zQ L) {j : Nat} (hj : j < 4) (f : Nat → Int32) : az_Sh g ad zG zO zX zY (az_u2 zA j 14 f) zB zM zI zL zK zN zF zQ (L.set (3 + 16 * j + 14) (aw_c ad j 14, .inl (g 0, 52, .inl f))) := az_setC (i := 14) h hj (by decide) (show az_shC g ad zG zO zX zY (az_u2 zA j 14 f) j 14 _ from (by show _ = _; rw [show az_u2 zA j 14 f j 14 = f from if_pos ⟨rfl, rfl⟩])) az_kA14 h.2.2.2.2.1
theorem zw_A14w {g : Nat → ClassId} {ad : Nat → Nat} {zG : Nat → Nat × Nat} {zO : Nat → Nat} {zX : Nat → Nat → Int64} {zY : Nat → Nat → Int32} {zA : Nat → Nat → Nat → Int32} {zB : Nat → Int32} {zM : Nat → Nat × Nat} {zI : Nat → Nat → Int32} {zL : Nat → Nat → Int64} {zK : Int32} {zN : Nat} {zF : Int32} {zQ : Int64} {L : va_W} (h : az_Sh g ad zG zO zX zY zA zB zM zI zL zK zN zF zQ L) {j : Nat} (hj : j < 4) (k : Nat) (x : Int32) : az_Sh g ad zG zO zX zY (az_w zA j 14 k x) zB zM zI zL zK zN zF zQ (L.set (3 + 16 * j + 14) (aw_c ad j 14, .inl (g 0, 52, .inl (upd (zA j 14) k x)))) := zw_A14 h hj (upd (zA j 14) k x)
theorem zw_X0 {g : Nat → ClassId} {ad : Nat → Nat} {zG : Nat → Nat × Nat} {zO : Nat → Nat} {zX : Nat → Nat → Int64} {zY : Nat → Nat → Int32} {zA : Nat → Nat → Nat → Int32} {zB : Nat → Int32} {zM : Nat → Nat × Nat} {zI : Nat → Nat → Int32} {zL : Nat → Nat → Int64} {zK : Int32} {zN : Nat} {zF : Int32} {zQ : Int64} {L : va_W} (h : az_Sh g ad zG zO zX zY zA zB zM zI zL zK zN zF zQ L) {j : Nat} (hj : j < 4) (v : Int64) : az_Sh g ad zG zO (az_u2 zX j 0 v) zY zA zB zM zI zL zK zN zF zQ (L.set (3 + 16 * j + 0) (aw_c ad j 0, .inr (1, [.ref (aw_c ad j 1), .ref (aw_c ad j 15), .int (nI (zG j).1), .int (nI (zG j).2), .ref (aw_c ad j (zO j)), .long v, .long (zX j 1), .long (zX j 2), .int (zY j 0), .int (zY j 1)]))) := az_setC (i := 0) h hj (by decide) (show az_shC g ad zG zO (az_u2 zX j 0 v) zY zA j 0 _ from ⟨(zr_C0 h hj).1, (by show _ = _; rw [show az_u2 zX j 0 v j 0 = v from if_pos ⟨rfl, rfl⟩, show az_u2 zX j 0 v j 1 = zX j 1 from if_neg (fun z => absurd z.2 (by decide)), show az_u2 zX j 0 v j 2 = zX j 2 from if_neg (fun z => absurd z.2 (by decide))])⟩) az_kX0 h.2.2.2.2.1
theorem zw_X1 {g : Nat → ClassId} {ad : Nat → Nat} {zG : Nat → Nat × Nat} {zO : Nat → Nat} {zX : Nat → Nat → Int64} {zY : Nat → Nat → Int32} {zA : Nat → Nat → Nat → Int32} {zB : Nat → Int32} {zM : Nat → Nat × Nat} {zI : Nat → Nat → Int32} {zL : Nat → Nat → Int64} {zK : Int32} {zN : Nat} {zF : Int32} {zQ : Int64} {L : va_W} (h : az_Sh g ad zG zO zX zY zA zB zM zI zL zK zN zF zQ L) {j : Nat} (hj : j < 4) (v : Int64) : az_Sh g ad zG zO (az_u2 zX j 1 v) zY zA zB zM zI zL zK zN zF zQ (L.set (3 + 16 * j + 0) (aw_c ad j 0, .inr (1, [.ref (aw_c ad j 1), .ref (aw_c ad j 15), .int (nI (zG j).1), .int (nI (zG j).2), .ref (aw_c ad j (zO j)), .long (zX j 0), .long v, .long (zX j 2), .int (zY j 0), .int (zY j 1)]))) := az_setC (i := 0) h hj (by decide) (show az_shC g ad zG zO (az_u2 zX j 1 v) zY zA j 0 _ from ⟨(zr_C0 h hj).1, (by show _ = _; rw [show az_u2 zX j 1 v j 0 = zX j 0 from if_neg (fun z => absurd z.2 (by decide)), show az_u2 zX j 1 v j 1 = v from if_pos ⟨rfl, rfl⟩, show az_u2 zX j 1 v j 2 = zX j 2 from if_neg (fun z => absurd z.2 (by decide))])⟩) az_kX1 h.2.2.2.2.1
theorem zw_X2 {g : Nat → ClassId} {ad : Nat → Nat} {zG : Nat → Nat × Nat} {zO : Nat → Nat} {zX : Nat → Nat → Int64} {zY : Nat → Nat → Int32} {zA : Nat → Nat → Nat → Int32} {zB : Nat → Int32} {zM : Nat → Nat × Nat} {zI : Nat → Nat → Int32} {zL : Nat → Nat → Int64} {zK : Int32} {zN : Nat} {zF : Int32} {zQ : Int64} {L : va_W} (h : az_Sh g ad zG zO zX zY zA zB zM zI zL zK zN zF zQ L) {j : Nat} (hj : j < 4) (v : Int64) : az_Sh g ad zG zO (az_u2 zX j 2 v) zY zA zB zM zI zL zK zN zF zQ (L.set (3 + 16 * j + 0) (aw_c ad j 0, .inr (1, [.ref (aw_c ad j 1), .ref (aw_c ad j 15), .int (nI (zG j).1), .int (nI (zG j).2), .ref (aw_c ad j (zO j)), .long (zX j 0), .long (zX j 1), .long v, .int (zY j 0), .int (zY j 1)]))) := az_setC (i := 0) h hj (by decide) (show az_shC g ad zG zO (az_u2 zX j 2 v) zY zA j 0 _ from ⟨(zr_C0 h hj).1, (by show _ = _; rw [show az_u2 zX j 2 v j 0 = zX j 0 from if_neg (fun z => absurd z.2 (by decide)), show az_u2 zX j 2 v j 1 = zX j 1 from if_neg (fun z => absurd z.2 (by decide)), show az_u2 zX j 2 v j 2 = v from if_pos ⟨rfl, rfl⟩])⟩) az_kX2 h.2.2.2.2.1
theorem zw_X3 {g : Nat → ClassId} {ad : Nat → Nat} {zG : Nat → Nat × Nat} {zO : Nat → Nat} {zX : Nat → Nat → Int64} {zY : Nat → Nat → Int32} {zA : Nat → Nat → Nat → Int32} {zB : Nat → Int32} {zM : Nat → Nat × Nat} {zI : Nat → Nat → Int32} {zL : Nat → Nat → Int64} {zK : Int32} {zN : Nat} {zF : Int32} {zQ : Int64} {L : va_W} (h : az_Sh g ad zG zO zX zY zA zB zM zI zL zK zN zF zQ L) {j : Nat} (hj : j < 4) (v : Int64) : az_Sh g ad zG zO (az_u2 zX j 3 v) zY zA zB zM zI zL zK zN zF zQ (L.set (3 + 16 * j + 15) (aw_c ad j 15, .inr (2, [.int (zY j 2), .long v, .long (zX j 4), .int (zY j 3)]))) := az_setC (i := 15) h hj (by decide) (show az_shC g ad zG zO (az_u2 zX j 3 v) zY zA j 15 _ from (by show _ = _; rw [show az_u2 zX j 3 v j 3 = v from if_pos ⟨rfl, rfl⟩, show az_u2 zX j 3 v j 4 = zX j 4 from if_neg (fun z => absurd z.2 (by decide))])) az_kX3 h.2.2.2.2.1
theorem zw_X4 {g : Nat → ClassId} {ad : Nat → Nat} {zG : Nat → Nat × Nat} {zO : Nat → Nat} {zX : Nat → Nat → Int64} {zY : Nat → Nat → Int32} {zA : Nat → Nat → Nat → Int32} {zB : Nat → Int32} {zM : Nat → Nat × Nat} {zI : Nat → Nat → Int32} {zL : Nat → Nat → Int64} {zK : Int32} {zN : Nat} {zF : Int32} {zQ : Int64} {L : va_W} (h : az_Sh g ad zG zO zX zY zA zB zM zI zL zK zN zF zQ L) {j : Nat} (hj : j < 4) (v : Int64) : az_Sh g ad zG zO (az_u2 zX j 4 v) zY zA zB zM zI zL zK zN zF zQ (L.set (3 + 16 * j + 15) (aw_c ad j 15, .inr (2, [.int (zY j 2), .long (zX j 3), .long v, .int (zY j 3)]))) := az_setC (i := 15) h hj (by decide) (show az_shC g ad zG zO (az_u2 zX j 4 v) zY zA j 15 _ from (by show _ = _; rw [show az_u2 zX j 4 v j 3 = zX j 3 from if_neg (fun z => absurd z.2 (by decide)), show az_u2 zX j 4 v j 4 = v from if_pos ⟨rfl, rfl⟩])) az_kX4 h.2.2.2.2.1
theorem zw_Y0 {g : Nat → ClassId} {ad : Nat → Nat} {zG : Nat → Nat × Nat} {zO : Nat → Nat} {zX : Nat → Nat → Int64} {zY : Nat → Nat → Int32} {zA : Nat → Nat → Nat → Int32} {zB : Nat → Int32} {zM : Nat → Nat × Nat} {zI : Nat → Nat → Int32} {zL : Nat → Nat → Int64} {zK : Int32} {zN : Nat} {zF : Int32} {zQ : Int64} {L : va_W} (h : az_Sh g ad zG zO zX zY zA zB zM zI zL zK zN zF zQ L) {j : Nat} (hj : j < 4) (v : Int32) : az_Sh g ad zG zO zX (az_u2 zY j 0 v) zA zB zM zI zL zK zN zF zQ (L.set (3 + 16 * j + 0) (aw_c ad j 0, .inr (1, [.ref (aw_c ad j 1), .ref (aw_c ad j 15), .int (nI (zG j).1), .int (nI (zG j).2), .ref (aw_c ad j (zO j)), .long (zX j 0), .long (zX j 1), .long (zX j 2), .int v, .int (zY j 1)]))) := az_setC (i := 0) h hj (by decide) (show az_shC g ad zG zO zX (az_u2 zY j 0 v) zA j 0 _ from ⟨(zr_C0 h hj).1, (by show _ = _; rw [show az_u2 zY j 0 v j 0 = v from if_pos ⟨rfl, rfl⟩, show az_u2 zY j 0 v j 1 = zY j 1 from if_neg (fun z => absurd z.2 (by decide))])⟩) az_kY0 h.2.2.2.2.1
theorem zw_Y1 {g : Nat → ClassId} {ad : Nat → Nat} {zG : Nat → Nat × Nat} {zO : Nat → Nat} {zX : Nat → Nat → Int64} {zY : Nat → Nat → Int32} {zA : Nat → Nat → Nat → Int32} {zB : Nat → Int32} {zM : Nat → Nat × Nat} {zI : Nat → Nat → Int32} {zL : Nat → Nat → Int64} {zK : Int32} {zN : Nat} {zF : Int32} {zQ : Int64} {L : va_W} (h : az_Sh g ad zG zO zX zY zA zB zM zI zL zK zN zF zQ L) {j : Nat} (hj : j < 4) (v : Int32) : az_Sh g ad zG zO zX (az_u2 zY j 1 v) zA zB zM zI zL zK zN zF zQ (L.set (3 + 16 * j + 0) (aw_c ad j 0, .inr (1, [.ref (aw_c ad j 1), .ref (aw_c ad j 15), .int (nI (zG j).1), .int (nI (zG j).2), .ref (aw_c ad j (zO j)), .long (zX j 0), .long (zX j 1), .long (zX j 2), .int (zY j 0), .int v]))) := az_setC (i := 0) h hj (by decide) (show az_shC g ad zG zO zX (az_u2 zY j 1 v) zA j 0 _ from ⟨(zr_C0 h hj).1, (by show _ = _; rw [show az_u2 zY j 1 v j 0 = zY j 0 from if_neg (fun z => absurd z.2 (by decide)), show az_u2 zY j 1 v j 1 = v from if_pos ⟨rfl, rfl⟩])⟩) az_kY1 h.2.2.2.2.1
theorem zw_Y2 {g : Nat → ClassId} {ad : Nat → Nat} {zG : Nat → Nat × Nat} {zO : Nat → Nat} {zX : Nat → Nat → Int64} {zY : Nat → Nat → Int32} {zA : Nat → Nat → Nat → Int32} {zB : Nat → Int32} {zM : Nat → Nat × Nat} {zI : Nat → Nat → Int32} {zL : Nat → Nat → Int64} {zK : Int32} {zN : Nat} {zF : Int32} {zQ : Int64} {L : va_W} (h : az_Sh g ad zG zO zX zY zA zB zM zI zL zK zN zF zQ L) {j : Nat} (hj : j < 4) (v : Int32) : az_Sh g ad zG zO zX (az_u2 zY j 2 v) zA zB zM zI zL zK zN zF zQ (L.set (3 + 16 * j + 15) (aw_c ad j 15, .inr (2, [.int v, .long (zX j 3), .long (zX j 4), .int (zY j 3)]))) := az_setC (i := 15) h hj (by decide) (show az_shC g ad zG zO zX (az_u2 zY j 2 v) zA j 15 _ from (by show _ = _; rw [show az_u2 zY j 2 v j 2 = v from if_pos ⟨rfl, rfl⟩, show az_u2 zY j 2 v j 3 = zY j 3 from if_neg (fun z => absurd z.2 (by decide))])) az_kY2 h.2.2.2.2.1
theorem zw_Y3 {g : Nat → ClassId} {ad : Nat → Nat} {zG : Nat → Nat × Nat} {zO : Nat → Nat} {zX : Nat → Nat → Int64} {zY : Nat → Nat → Int32} {zA : Nat → Nat → Nat → Int32} {zB : Nat → Int32} {zM : Nat → Nat × Nat} {zI : Nat → Nat → Int32} {zL : Nat → Nat → Int64} {zK : Int32} {zN : Nat} {zF : Int32} {zQ : Int64} {L : va_W} (h : az_Sh g ad zG zO zX zY zA zB zM zI zL zK zN zF zQ L) {j : Nat} (hj : j < 4) (v : Int32) : az_Sh g ad zG zO zX (az_u2 zY j 3 v) zA zB zM zI zL zK zN zF zQ (L.set (3 + 16 * j + 15) (aw_c ad j 15, .inr (2, [.int (zY j 2), .long (zX j 3), .long (zX j 4), .int v]))) := az_setC (i := 15) h hj (by decide) (show az_shC g ad zG zO zX (az_u2 zY j 3 v) zA j 15 _ from (by show _ = _; rw [show az_u2 zY j 3 v j 2 = zY j 2 from if_neg (fun z => absurd z.2 (by decide)), show az_u2 zY j 3 v j 3 = v from if_pos ⟨rfl, rfl⟩])) az_kY3 h.2.2.2.2.1
theorem zw_G1 {g : Nat → ClassId} {ad : Nat → Nat} {zG : Nat → Nat × Nat} {zO : Nat → Nat} {zX : Nat → Nat → Int64} {zY : Nat → Nat → Int32} {zA : Nat → Nat → Nat → Int32} {zB : Nat → Int32} {zM : Nat → Nat × Nat} {zI : Nat → Nat → Int32} {zL : Nat → Nat → Int64} {zK : Int32} {zN : Nat} {zF : Int32} {zQ : Int64} {L : va_W} (h : az_Sh g ad zG zO zX zY zA zB zM zI zL zK zN zF zQ L) {j : Nat} (hj : j < 4) (v : Nat) (hv : v ≤ 3) : az_Sh g ad (aw_g1 zG j v) zO zX zY zA zB zM zI zL zK zN zF zQ (L.set (3 + 16 * j + 0) (aw_c ad j 0, .inr (1, [.ref (aw_c ad j 1), .ref (aw_c ad j 15), .int (nI v), .int (nI (zG j).2), .ref (aw_c ad j (zO j)), .long (zX j 0), .long (zX j 1), .long (zX j 2), .int (zY j 0), .int (zY j 1)]))) := az_setC (i := 0) h hj (by decide) (show az_shC g ad (aw_g1 zG j v) zO zX zY zA j 0 _ from ⟨(zr_C0 h hj).1, by simp only [aw_g1s]⟩) az_kG1 (aw_g1k h.2.2.2.2.1 hv)
theorem zw_G2 {g : Nat → ClassId} {ad : Nat → Nat} {zG : Nat → Nat × Nat} {zO : Nat → Nat} {zX : Nat → Nat → Int64} {zY : Nat → Nat → Int32} {zA : Nat → Nat → Nat → Int32} {zB : Nat → Int32} {zM : Nat → Nat × Nat} {zI : Nat → Nat → Int32} {zL : Nat → Nat → Int64} {zK : Int32} {zN : Nat} {zF : Int32} {zQ : Int64} {L : va_W} (h : az_Sh g ad zG zO zX zY zA zB zM zI zL zK zN zF zQ L) {j : Nat} (hj : j < 4) (v : Nat) (hv : v ≤ 5) : az_Sh g ad (aw_g2 zG j v) zO zX zY zA zB zM zI zL zK zN zF zQ (L.set (3 + 16 * j + 0) (aw_c ad j 0, .inr (1, [.ref (aw_c ad j 1), .ref (aw_c ad j 15), .int (nI (zG j).1), .int (nI v), .ref (aw_c ad j (zO j)), .long (zX j 0), .long (zX j 1), .long (zX j 2), .int (zY j 0), .int (zY j 1)]))) := az_setC (i := 0) h hj (by decide) (show az_shC g ad (aw_g2 zG j v) zO zX zY zA j 0 _ from ⟨(zr_C0 h hj).1, by simp only [aw_g2s]⟩) az_kG2 (aw_g2k h.2.2.2.2.1 hv)
theorem zw_O {g : Nat → ClassId} {ad : Nat → Nat} {zG : Nat → Nat × Nat} {zO : Nat → Nat} {zX : Nat → Nat → Int64} {zY : Nat → Nat → Int32} {zA : Nat → Nat → Nat → Int32} {zB : Nat → Int32} {zM : Nat → Nat × Nat} {zI : Nat → Nat → Int32} {zL : Nat → Nat → Int64} {zK : Int32} {zN : Nat} {zF : Int32} {zQ : Int64} {L : va_W} (h : az_Sh g ad zG zO zX zY zA zB zM zI zL zK zN zF zQ L) {j : Nat} (hj : j < 4) (v : Nat) (hv : aw_cof v) : az_Sh g ad zG (az_u1 zO j v) zX zY zA zB zM zI zL zK zN zF zQ (L.set (3 + 16 * j + 0) (aw_c ad j 0, .inr (1, [.ref (aw_c ad j 1), .ref (aw_c ad j 15), .int (nI (zG j).1), .int (nI (zG j).2), .ref (aw_c ad j v), .long (zX j 0), .long (zX j 1), .long (zX j 2), .int (zY j 0), .int (zY j 1)]))) := az_setC (i := 0) h hj (by decide) (show az_shC g ad zG (az_u1 zO j v) zX zY zA j 0 _ from (by show aw_cof (az_u1 zO j v j) ∧ _ = _; rw [show az_u1 zO j v j = v from if_pos rfl]; exact ⟨hv, rfl⟩)) az_kO h.2.2.2.2.1
theorem zw_B {g : Nat → ClassId} {ad : Nat → Nat} {zG : Nat → Nat × Nat} {zO : Nat → Nat} {zX : Nat → Nat → Int64} {zY : Nat → Nat → Int32} {zA : Nat → Nat → Nat → Int32} {zB : Nat → Int32} {zM : Nat → Nat × Nat} {zI : Nat → Nat → Int32} {zL : Nat → Nat → Int64} {zK : Int32} {zN : Nat} {zF : Int32} {zQ : Int64} {L : va_W} (h : az_Sh g ad zG zO zX zY zA zB zM zI zL zK zN zF zQ L) (f : Nat → Int32) : az_Sh g ad zG zO zX zY zA (f) zM zI zL zK zN zF zQ (L.set 2 (aw_r ad 2, .inl (g 0, 64, .inl f))) := az_setB h f
theorem zw_Q {g : Nat → ClassId} {ad : Nat → Nat} {zG : Nat → Nat × Nat} {zO : Nat → Nat} {zX : Nat → Nat → Int64} {zY : Nat → Nat → Int32} {zA : Nat → Nat → Nat → Int32} {zB : Nat → Int32} {zM : Nat → Nat × Nat} {zI : Nat → Nat → Int32} {zL : Nat → Nat → Int64} {zK : Int32} {zN : Nat} {zF : Int32} {zQ : Int64} {L : va_W} (h : az_Sh g ad zG zO zX zY zA zB zM zI zL zK zN zF zQ L) (f : Nat → Int64) (x : Int64) : az_Sh g ad zG zO zX zY zA zB zM zI zL zK zN zF (x) (L.set 84 (aw_o ad, .inl (g 1, 1, .inr (.inl (vp_updL f 0 x))))) := az_setQ h (vp_updL f 0 x)
theorem zw_I1 {g : Nat → ClassId} {ad : Nat → Nat} {zG : Nat → Nat × Nat} {zO : Nat → Nat} {zX : Nat → Nat → Int64} {zY : Nat → Nat → Int32} {zA : Nat → Nat → Nat → Int32} {zB : Nat → Int32} {zM : Nat → Nat × Nat} {zI : Nat → Nat → Int32} {zL : Nat → Nat → Int64} {zK : Int32} {zN : Nat} {zF : Int32} {zQ : Int64} {L : va_W} (h : az_Sh g ad zG zO zX zY zA zB zM zI zL zK zN zF zQ L) (f : Nat → Int32) : az_Sh g ad zG zO zX zY zA zB zM (az_u1 zI 1 f) zL zK zN zF zQ (L.set 68 (aw_m ad 1, .inl (g 0, 64, .inl f))) := az_setM (i := 1) h (by decide) (show az_shM g ad zM (az_u1 zI 1 f) zL zK zN zF 1 _ from (by show _ = _; rw [show az_u1 zI 1 f 1 = f from if_pos rfl])) az_kI1 h.2.2.2.2.2
theorem zw_I1w {g : Nat → ClassId} {ad : Nat → Nat} {zG : Nat → Nat × Nat} {zO : Nat → Nat} {zX : Nat → Nat → Int64} {zY : Nat → Nat → Int32} {zA : Nat → Nat → Nat → Int32} {zB : Nat → Int32} {zM : Nat → Nat × Nat} {zI : Nat → Nat → Int32} {zL : Nat → Nat → Int64} {zK : Int32} {zN : Nat} {zF : Int32} {zQ : Int64} {L : va_W} (h : az_Sh g ad zG zO zX zY zA zB zM zI zL zK zN zF zQ L) (k : Nat) (x : Int32) : az_Sh g ad zG zO zX zY zA zB zM (az_v zI 1 k x) zL zK zN zF zQ (L.set 68 (aw_m ad 1, .inl (g 0, 64, .inl (upd (zI 1) k x)))) := zw_I1 h (upd (zI 1) k x)
theorem zw_I3 {g : Nat → ClassId} {ad : Nat → Nat} {zG : Nat → Nat × Nat} {zO : Nat → Nat} {zX : Nat → Nat → Int64} {zY : Nat → Nat → Int32} {zA : Nat → Nat → Nat → Int32} {zB : Nat → Int32} {zM : Nat → Nat × Nat} {zI : Nat → Nat → Int32} {zL : Nat → Nat → Int64} {zK : Int32} {zN : Nat} {zF : Int32} {zQ : Int64} {L : va_W} (h : az_Sh g ad zG zO zX zY zA zB zM zI zL zK zN zF zQ L) (f : Nat → Int32) : az_Sh g ad zG zO zX zY zA zB zM (az_u1 zI 3 f) zL zK zN zF zQ (L.set 70 (aw_m ad 3, .inl (g 0, 4, .inl f))) := az_setM (i := 3) h (by decide) (show az_shM g ad zM (az_u1 zI 3 f) zL zK zN zF 3 _ from (by show _ = _; rw [show az_u1 zI 3 f 3 = f from if_pos rfl])) az_kI3 h.2.2.2.2.2
theorem zw_I3w {g : Nat → ClassId} {ad : Nat → Nat} {zG : Nat → Nat × Nat} {zO : Nat → Nat} {zX : Nat → Nat → Int64} {zY : Nat → Nat → Int32} {zA : Nat → Nat → Nat → Int32} {zB : Nat → Int32} {zM : Nat → Nat × Nat} {zI : Nat → Nat → Int32} {zL : Nat → Nat → Int64} {zK : Int32} {zN : Nat} {zF : Int32} {zQ : Int64} {L : va_W} (h : az_Sh g ad zG zO zX zY zA zB zM zI zL zK zN zF zQ L) (k : Nat) (x : Int32) : az_Sh g ad zG zO zX zY zA zB zM (az_v zI 3 k x) zL zK zN zF zQ (L.set 70 (aw_m ad 3, .inl (g 0, 4, .inl (upd (zI 3) k x)))) := zw_I3 h (upd (zI 3) k x)
theorem zw_I9 {g : Nat → ClassId} {ad : Nat → Nat} {zG : Nat → Nat × Nat} {zO : Nat → Nat} {zX : Nat → Nat → Int64} {zY : Nat → Nat → Int32} {zA : Nat → Nat → Nat → Int32} {zB : Nat → Int32} {zM : Nat → Nat × Nat} {zI : Nat → Nat → Int32} {zL : Nat → Nat → Int64} {zK : Int32} {zN : Nat} {zF : Int32} {zQ : Int64} {L : va_W} (h : az_Sh g ad zG zO zX zY zA zB zM zI zL zK zN zF zQ L) (f : Nat → Int32) : az_Sh g ad zG zO zX zY zA zB zM (az_u1 zI 9 f) zL zK zN zF zQ (L.set 76 (aw_m ad 9, .inl (g 0, 4, .inl f))) := az_setM (i := 9) h (by decide) (show az_shM g ad zM (az_u1 zI 9 f) zL zK zN zF 9 _ from (by show _ = _; rw [show az_u1 zI 9 f 9 = f from if_pos rfl])) az_kI9 h.2.2.2.2.2
theorem zw_I9w {g : Nat → ClassId} {ad : Nat → Nat} {zG : Nat → Nat × Nat} {zO : Nat → Nat} {zX : Nat → Nat → Int64} {zY : Nat → Nat → Int32} {zA : Nat → Nat → Nat → Int32} {zB : Nat → Int32} {zM : Nat → Nat × Nat} {zI : Nat → Nat → Int32} {zL : Nat → Nat → Int64} {zK : Int32} {zN : Nat} {zF : Int32} {zQ : Int64} {L : va_W} (h : az_Sh g ad zG zO zX zY zA zB zM zI zL zK zN zF zQ L) (k : Nat) (x : Int32) : az_Sh g ad zG zO zX zY zA zB zM (az_v zI 9 k x) zL zK zN zF zQ (L.set 76 (aw_m ad 9, .inl (g 0, 4, .inl (upd (zI 9) k x)))) := zw_I9 h (upd (zI 9) k x)
theorem zw_I10 {g : Nat → ClassId} {ad : Nat → Nat} {zG : Nat → Nat × Nat} {zO : Nat → Nat} {zX : Nat → Nat → Int64} {zY : Nat → Nat → Int32} {zA : Nat → Nat → Nat → Int32} {zB : Nat → Int32} {zM : Nat → Nat × Nat} {zI : Nat → Nat → Int32} {zL : Nat → Nat → Int64} {zK : Int32} {zN : Nat} {zF : Int32} {zQ : Int64} {L : va_W} (h : az_Sh g ad zG zO zX zY zA zB zM zI zL zK zN zF zQ L) (f : Nat → Int32) : az_Sh g ad zG zO zX zY zA zB zM (az_u1 zI 10 f) zL zK zN zF zQ (L.set 77 (aw_m ad 10, .inl (g 0, 4, .inl f))) := az_setM (i := 10) h (by decide) (show az_shM g ad zM (az_u1 zI 10 f) zL zK zN zF 10 _ from (by show _ = _; rw [show az_u1 zI 10 f 10 = f from if_pos rfl])) az_kI10 h.2.2.2.2.2
theorem zw_I10w {g : Nat → ClassId} {ad : Nat → Nat} {zG : Nat → Nat × Nat} {zO : Nat → Nat} {zX : Nat → Nat → Int64} {zY : Nat → Nat → Int32} {zA : Nat → Nat → Nat → Int32} {zB : Nat → Int32} {zM : Nat → Nat × Nat} {zI : Nat → Nat → Int32} {zL : Nat → Nat → Int64} {zK : Int32} {zN : Nat} {zF : Int32} {zQ : Int64} {L : va_W} (h : az_Sh g ad zG zO zX zY zA zB zM zI zL zK zN zF zQ L) (k : Nat) (x : Int32) : az_Sh g ad zG zO zX zY zA zB zM (az_v zI 10 k x) zL zK zN zF zQ (L.set 77 (aw_m ad 10, .inl (g 0, 4, .inl (upd (zI 10) k x)))) := zw_I10 h (upd (zI 10) k x)
theorem zw_I11 {g : Nat → ClassId} {ad : Nat → Nat} {zG : Nat → Nat × Nat} {zO : Nat → Nat} {zX : Nat → Nat → Int64} {zY : Nat → Nat → Int32} {zA : Nat → Nat → Nat → Int32} {zB : Nat → Int32} {zM : Nat → Nat × Nat} {zI : Nat → Nat → Int32} {zL : Nat → Nat → Int64} {zK : Int32} {zN : Nat} {zF : Int32} {zQ : Int64} {L : va_W} (h : az_Sh g ad zG zO zX zY zA zB zM zI zL zK zN zF zQ L) (f : Nat → Int32) : az_Sh g ad zG zO zX zY zA zB zM (az_u1 zI 11 f) zL zK zN zF zQ (L.set 78 (aw_m ad 11, .inl (g 0, 4, .inl f))) := az_setM (i := 11) h (by decide) (show az_shM g ad zM (az_u1 zI 11 f) zL zK zN zF 11 _ from (by show _ = _; rw [show az_u1 zI 11 f 11 = f from if_pos rfl])) az_kI11 h.2.2.2.2.2
theorem zw_I11w {g : Nat → ClassId} {ad : Nat → Nat} {zG : Nat → Nat × Nat} {zO : Nat → Nat} {zX : Nat → Nat → Int64} {zY : Nat → Nat → Int32} {zA : Nat → Nat → Nat → Int32} {zB : Nat → Int32} {zM : Nat → Nat × Nat} {zI : Nat → Nat → Int32} {zL : Nat → Nat → Int64} {zK : Int32} {zN : Nat} {zF : Int32} {zQ : Int64} {L : va_W} (h : az_Sh g ad zG zO zX zY zA zB zM zI zL zK zN zF zQ L) (k : Nat) (x : Int32) : az_Sh g ad zG zO zX zY zA zB zM (az_v zI 11 k x) zL zK zN zF zQ (L.set 78 (aw_m ad 11, .inl (g 0, 4, .inl (upd (zI 11) k x)))) := zw_I11 h (upd (zI 11) k x)
theorem zw_I14 {g : Nat → ClassId} {ad : Nat → Nat} {zG : Nat → Nat × Nat} {zO : Nat → Nat} {zX : Nat → Nat → Int64} {zY : Nat → Nat → Int32} {zA : Nat → Nat → Nat → Int32} {zB : Nat → Int32} {zM : Nat → Nat × Nat} {zI : Nat → Nat → Int32} {zL : Nat → Nat → Int64} {zK : Int32} {zN : Nat} {zF : Int32} {zQ : Int64} {L : va_W} (h : az_Sh g ad zG zO zX zY zA zB zM zI zL zK zN zF zQ L) (f : Nat → Int32) : az_Sh g ad zG zO zX zY zA zB zM (az_u1 zI 14 f) zL zK zN zF zQ (L.set 81 (aw_m ad 14, .inl (g 0, 4, .inl f))) := az_setM (i := 14) h (by decide) (show az_shM g ad zM (az_u1 zI 14 f) zL zK zN zF 14 _ from (by show _ = _; rw [show az_u1 zI 14 f 14 = f from if_pos rfl])) az_kI14 h.2.2.2.2.2
theorem zw_I14w {g : Nat → ClassId} {ad : Nat → Nat} {zG : Nat → Nat × Nat} {zO : Nat → Nat} {zX : Nat → Nat → Int64} {zY : Nat → Nat → Int32} {zA : Nat → Nat → Nat → Int32} {zB : Nat → Int32} {zM : Nat → Nat × Nat} {zI : Nat → Nat → Int32} {zL : Nat → Nat → Int64} {zK : Int32} {zN : Nat} {zF : Int32} {zQ : Int64} {L : va_W} (h : az_Sh g ad zG zO zX zY zA zB zM zI zL zK zN zF zQ L) (k : Nat) (x : Int32) : az_Sh g ad zG zO zX zY zA zB zM (az_v zI 14 k x) zL zK zN zF zQ (L.set 81 (aw_m ad 14, .inl (g 0, 4, .inl (upd (zI 14) k x)))) := zw_I14 h (upd (zI 14) k x)
theorem zw_I15 {g : Nat → ClassId} {ad : Nat → Nat} {zG : Nat → Nat × Nat} {zO : Nat → Nat} {zX : Nat → Nat → Int64} {zY : Nat → Nat → Int32} {zA : Nat → Nat → Nat → Int32} {zB : Nat → Int32} {zM : Nat → Nat × Nat} {zI : Nat → Nat → Int32} {zL : Nat → Nat → Int64} {zK : Int32} {zN : Nat} {zF : Int32} {zQ : Int64} {L : va_W} (h : az_Sh g ad zG zO zX zY zA zB zM zI zL zK zN zF zQ L) (f : Nat → Int32) : az_Sh g ad zG zO zX zY zA zB zM (az_u1 zI 15 f) zL zK zN zF zQ (L.set 82 (aw_m ad 15, .inl (g 0, 52, .inl f))) := az_setM (i := 15) h (by decide) (show az_shM g ad zM (az_u1 zI 15 f) zL zK zN zF 15 _ from (by show _ = _; rw [show az_u1 zI 15 f 15 = f from if_pos rfl])) az_kI15 h.2.2.2.2.2
theorem zw_I15w {g : Nat → ClassId} {ad : Nat → Nat} {zG : Nat → Nat × Nat} {zO : Nat → Nat} {zX : Nat → Nat → Int64} {zY : Nat → Nat → Int32} {zA : Nat → Nat → Nat → Int32} {zB : Nat → Int32} {zM : Nat → Nat × Nat} {zI : Nat → Nat → Int32} {zL : Nat → Nat → Int64} {zK : Int32} {zN : Nat} {zF : Int32} {zQ : Int64} {L : va_W} (h : az_Sh g ad zG zO zX zY zA zB zM zI zL zK zN zF zQ L) (k : Nat) (x : Int32) : az_Sh g ad zG zO zX zY zA zB zM (az_v zI 15 k x) zL zK zN zF zQ (L.set 82 (aw_m ad 15, .inl (g 0, 52, .inl (upd (zI 15) k x)))) := zw_I15 h (upd (zI 15) k x)
theorem zw_I16 {g : Nat → ClassId} {ad : Nat → Nat} {zG : Nat → Nat × Nat} {zO : Nat → Nat} {zX : Nat → Nat → Int64} {zY : Nat → Nat → Int32} {zA : Nat → Nat → Nat → Int32} {zB : Nat → Int32} {zM : Nat → Nat × Nat} {zI : Nat → Nat → Int32} {zL : Nat → Nat → Int64} {zK : Int32} {zN : Nat} {zF : Int32} {zQ : Int64} {L : va_W} (h : az_Sh g ad zG zO zX zY zA zB zM zI zL zK zN zF zQ L) (f : Nat → Int32) : az_Sh g ad zG zO zX zY zA zB zM (az_u1 zI 16 f) zL zK zN zF zQ (L.set 83 (aw_m ad 16, .inl (g 0, 32, .inl f))) := az_setM (i := 16) h (by decide) (show az_shM g ad zM (az_u1 zI 16 f) zL zK zN zF 16 _ from (by show _ = _; rw [show az_u1 zI 16 f 16 = f from if_pos rfl])) az_kI16 h.2.2.2.2.2
theorem zw_I16w {g : Nat → ClassId} {ad : Nat → Nat} {zG : Nat → Nat × Nat} {zO : Nat → Nat} {zX : Nat → Nat → Int64} {zY : Nat → Nat → Int32} {zA : Nat → Nat → Nat → Int32} {zB : Nat → Int32} {zM : Nat → Nat × Nat} {zI : Nat → Nat → Int32} {zL : Nat → Nat → Int64} {zK : Int32} {zN : Nat} {zF : Int32} {zQ : Int64} {L : va_W} (h : az_Sh g ad zG zO zX zY zA zB zM zI zL zK zN zF zQ L) (k : Nat) (x : Int32) : az_Sh g ad zG zO zX zY zA zB zM (az_v zI 16 k x) zL zK zN zF zQ (L.set 83 (aw_m ad 16, .inl (g 0, 32, .inl (upd (zI 16) k x)))) := zw_I16 h (upd (zI 16) k x)
theorem az_kM2 {g : Nat → ClassId} {ad : Nat → Nat} {zM : Nat → Nat × Nat} {zI : Nat → Nat → Int32} {zL : Nat → Nat → Int64} {zK : Int32} {zN : Nat} {zF : Int32} {k v : Nat} : ∀ q e, q < 17 → q ≠ 2 → az_shM g ad zM zI zL zK zN zF q e → az_shM g ad (aw_g1 zM k v) (az_v zI 2 k (nI v)) zL zK zN zF q e := by
  intro q e hq h hs
  match q, hq, h, hs with
  | 0, hq, h, hs => exact hs
  | 1, hq, h, hs =>
    have hs : e = .inl (g 0, 64, .inl (zI 1)) := hs
    show e = _
    rw [az_v_i (show 1 ≠ 2 by decide)]
    exact hs
  | 2, hq, h, hs => exact absurd (by omega) h
  | 3, hq, h, hs =>
    have hs : e = .inl (g 0, 4, .inl (zI 3)) := hs
    show e = _
    rw [az_v_i (show 3 ≠ 2 by decide)]
    exact hs
  | 4, hq, h, hs => exact hs
  | 5, hq, h, hs => exact hs
  | 6, hq, h, hs =>
    have hs : (∀ k, k < 4 → zI 6 k = nI (zM k).2) ∧ e = .inl (g 0, 4, .inl (zI 6)) := hs
    refine ⟨fun z hz => ?_, ?_⟩
    · show az_v zI 2 k (nI v) 6 z = _
      rw [az_v_i (show 6 ≠ 2 by decide), hs.1 z hz]
      by_cases hzk : z = k
      · rw [hzk]; exact congrArg nI (by simp only [aw_g1s])
      · rw [aw_g1n zM v hzk]
    · rw [az_v_i (show 6 ≠ 2 by decide)]; exact hs.2
  | 7, hq, h, hs => exact hs
  | 8, hq, h, hs => exact hs
  | 9, hq, h, hs =>
    have hs : e = .inl (g 0, 4, .inl (zI 9)) := hs
    show e = _
    rw [az_v_i (show 9 ≠ 2 by decide)]
    exact hs
  | 10, hq, h, hs =>
    have hs : e = .inl (g 0, 4, .inl (zI 10)) := hs
    show e = _
    rw [az_v_i (show 10 ≠ 2 by decide)]
    exact hs
  | 11, hq, h, hs =>
    have hs : e = .inl (g 0, 4, .inl (zI 11)) := hs
    show e = _
    rw [az_v_i (show 11 ≠ 2 by decide)]
    exact hs
  | 12, hq, h, hs => exact hs
  | 13, hq, h, hs => exact hs
  | 14, hq, h, hs =>
    have hs : e = .inl (g 0, 4, .inl (zI 14)) := hs
    show e = _
    rw [az_v_i (show 14 ≠ 2 by decide)]
    exact hs
  | 15, hq, h, hs =>
    have hs : e = .inl (g 0, 52, .inl (zI 15)) := hs
    show e = _
    rw [az_v_i (show 15 ≠ 2 by decide)]
    exact hs
  | n + 16, hq, h, hs =>
    have hn : n = 0 := by omega
    subst hn
    have hs : e = .inl (g 0, 32, .inl (zI 16)) := hs
    show e = _
    rw [az_v_i (show 16 ≠ 2 by decide)]
    exact hs
theorem zw_M2 {g : Nat → ClassId} {ad : Nat → Nat} {zG : Nat → Nat × Nat} {zO : Nat → Nat} {zX : Nat → Nat → Int64} {zY : Nat → Nat → Int32} {zA : Nat → Nat → Nat → Int32} {zB : Nat → Int32} {zM : Nat → Nat × Nat} {zI : Nat → Nat → Int32} {zL : Nat → Nat → Int64} {zK : Int32} {zN : Nat} {zF : Int32} {zQ : Int64} {L : va_W} (h : az_Sh g ad zG zO zX zY zA zB zM zI zL zK zN zF zQ L) (k : Nat) (hk : k < 4) (v : Nat) (hv : v ≤ 3) : az_Sh g ad zG zO zX zY zA zB (aw_g1 zM k v) (az_v zI 2 k (nI v)) zL zK zN zF zQ (L.set 69 (aw_m ad 2, .inl (g 0, 4, .inl (upd (zI 2) k (nI v))))) := by
  refine az_setM (i := 2) h (by decide) ?_ az_kM2 (aw_g1k h.2.2.2.2.2 hv)
  refine ⟨fun z hz => ?_, ?_⟩
  · show az_v zI 2 k (nI v) 2 z = _
    rw [az_v_r]
    by_cases hzk : z = k
    · rw [hzk, aw_g1s]; exact pk_us
    · rw [aw_g1n zM v hzk, pk_un hzk]; exact (zr_M2 h).1 z hz
  · show _ = _
    rw [az_v_r]
theorem az_kM6 {g : Nat → ClassId} {ad : Nat → Nat} {zM : Nat → Nat × Nat} {zI : Nat → Nat → Int32} {zL : Nat → Nat → Int64} {zK : Int32} {zN : Nat} {zF : Int32} {k v : Nat} : ∀ q e, q < 17 → q ≠ 6 → az_shM g ad zM zI zL zK zN zF q e → az_shM g ad (aw_g2 zM k v) (az_v zI 6 k (nI v)) zL zK zN zF q e := by
  intro q e hq h hs
  match q, hq, h, hs with
  | 0, hq, h, hs => exact hs
  | 1, hq, h, hs =>
    have hs : e = .inl (g 0, 64, .inl (zI 1)) := hs
    show e = _
    rw [az_v_i (show 1 ≠ 6 by decide)]
    exact hs
  | 2, hq, h, hs =>
    have hs : (∀ k, k < 4 → zI 2 k = nI (zM k).1) ∧ e = .inl (g 0, 4, .inl (zI 2)) := hs
    refine ⟨fun z hz => ?_, ?_⟩
    · show az_v zI 6 k (nI v) 2 z = _
      rw [az_v_i (show 2 ≠ 6 by decide), hs.1 z hz]
      by_cases hzk : z = k
      · rw [hzk]; exact congrArg nI (by simp only [aw_g2s])
      · rw [aw_g2n zM v hzk]
    · rw [az_v_i (show 2 ≠ 6 by decide)]; exact hs.2
  | 3, hq, h, hs =>
    have hs : e = .inl (g 0, 4, .inl (zI 3)) := hs
    show e = _
    rw [az_v_i (show 3 ≠ 6 by decide)]
    exact hs
  | 4, hq, h, hs => exact hs
  | 5, hq, h, hs => exact hs
  | 6, hq, h, hs => exact absurd (by omega) h
  | 7, hq, h, hs => exact hs
  | 8, hq, h, hs => exact hs
  | 9, hq, h, hs =>
    have hs : e = .inl (g 0, 4, .inl (zI 9)) := hs
    show e = _
    rw [az_v_i (show 9 ≠ 6 by decide)]
    exact hs
  | 10, hq, h, hs =>
    have hs : e = .inl (g 0, 4, .inl (zI 10)) := hs
    show e = _
    rw [az_v_i (show 10 ≠ 6 by decide)]
    exact hs
  | 11, hq, h, hs =>
    have hs : e = .inl (g 0, 4, .inl (zI 11)) := hs
    show e = _
    rw [az_v_i (show 11 ≠ 6 by decide)]
    exact hs
  | 12, hq, h, hs => exact hs
  | 13, hq, h, hs => exact hs
  | 14, hq, h, hs =>
    have hs : e = .inl (g 0, 4, .inl (zI 14)) := hs
    show e = _
    rw [az_v_i (show 14 ≠ 6 by decide)]
    exact hs
  | 15, hq, h, hs =>
    have hs : e = .inl (g 0, 52, .inl (zI 15)) := hs
    show e = _
    rw [az_v_i (show 15 ≠ 6 by decide)]
    exact hs
  | n + 16, hq, h, hs =>
    have hn : n = 0 := by omega
    subst hn
    have hs : e = .inl (g 0, 32, .inl (zI 16)) := hs
    show e = _
    rw [az_v_i (show 16 ≠ 6 by decide)]
    exact hs
theorem zw_M6 {g : Nat → ClassId} {ad : Nat → Nat} {zG : Nat → Nat × Nat} {zO : Nat → Nat} {zX : Nat → Nat → Int64} {zY : Nat → Nat → Int32} {zA : Nat → Nat → Nat → Int32} {zB : Nat → Int32} {zM : Nat → Nat × Nat} {zI : Nat → Nat → Int32} {zL : Nat → Nat → Int64} {zK : Int32} {zN : Nat} {zF : Int32} {zQ : Int64} {L : va_W} (h : az_Sh g ad zG zO zX zY zA zB zM zI zL zK zN zF zQ L) (k : Nat) (hk : k < 4) (v : Nat) (hv : v ≤ 5) : az_Sh g ad zG zO zX zY zA zB (aw_g2 zM k v) (az_v zI 6 k (nI v)) zL zK zN zF zQ (L.set 73 (aw_m ad 6, .inl (g 0, 4, .inl (upd (zI 6) k (nI v))))) := by
  refine az_setM (i := 6) h (by decide) ?_ az_kM6 (aw_g2k h.2.2.2.2.2 hv)
  refine ⟨fun z hz => ?_, ?_⟩
  · show az_v zI 6 k (nI v) 6 z = _
    rw [az_v_r]
    by_cases hzk : z = k
    · rw [hzk, aw_g2s]; exact pk_us
    · rw [aw_g2n zM v hzk, pk_un hzk]; exact (zr_M6 h).1 z hz
  · show _ = _
    rw [az_v_r]
theorem zw_L4 {g : Nat → ClassId} {ad : Nat → Nat} {zG : Nat → Nat × Nat} {zO : Nat → Nat} {zX : Nat → Nat → Int64} {zY : Nat → Nat → Int32} {zA : Nat → Nat → Nat → Int32} {zB : Nat → Int32} {zM : Nat → Nat × Nat} {zI : Nat → Nat → Int32} {zL : Nat → Nat → Int64} {zK : Int32} {zN : Nat} {zF : Int32} {zQ : Int64} {L : va_W} (h : az_Sh g ad zG zO zX zY zA zB zM zI zL zK zN zF zQ L) (f : Nat → Int64) : az_Sh g ad zG zO zX zY zA zB zM zI (az_u1 zL 4 f) zK zN zF zQ (L.set 71 (aw_m ad 4, .inl (g 1, 4, .inr (.inl f)))) := az_setM (i := 4) h (by decide) (show az_shM g ad zM zI (az_u1 zL 4 f) zK zN zF 4 _ from (by show _ = _; rw [show az_u1 zL 4 f 4 = f from if_pos rfl])) az_kL4 h.2.2.2.2.2
theorem zw_L4w {g : Nat → ClassId} {ad : Nat → Nat} {zG : Nat → Nat × Nat} {zO : Nat → Nat} {zX : Nat → Nat → Int64} {zY : Nat → Nat → Int32} {zA : Nat → Nat → Nat → Int32} {zB : Nat → Int32} {zM : Nat → Nat × Nat} {zI : Nat → Nat → Int32} {zL : Nat → Nat → Int64} {zK : Int32} {zN : Nat} {zF : Int32} {zQ : Int64} {L : va_W} (h : az_Sh g ad zG zO zX zY zA zB zM zI zL zK zN zF zQ L) (k : Nat) (x : Int64) : az_Sh g ad zG zO zX zY zA zB zM zI (az_vl zL 4 k x) zK zN zF zQ (L.set 71 (aw_m ad 4, .inl (g 1, 4, .inr (.inl (vp_updL (zL 4) k x))))) := zw_L4 h (vp_updL (zL 4) k x)
theorem zw_L5 {g : Nat → ClassId} {ad : Nat → Nat} {zG : Nat → Nat × Nat} {zO : Nat → Nat} {zX : Nat → Nat → Int64} {zY : Nat → Nat → Int32} {zA : Nat → Nat → Nat → Int32} {zB : Nat → Int32} {zM : Nat → Nat × Nat} {zI : Nat → Nat → Int32} {zL : Nat → Nat → Int64} {zK : Int32} {zN : Nat} {zF : Int32} {zQ : Int64} {L : va_W} (h : az_Sh g ad zG zO zX zY zA zB zM zI zL zK zN zF zQ L) (f : Nat → Int64) : az_Sh g ad zG zO zX zY zA zB zM zI (az_u1 zL 5 f) zK zN zF zQ (L.set 72 (aw_m ad 5, .inl (g 1, 4, .inr (.inl f)))) := az_setM (i := 5) h (by decide) (show az_shM g ad zM zI (az_u1 zL 5 f) zK zN zF 5 _ from (by show _ = _; rw [show az_u1 zL 5 f 5 = f from if_pos rfl])) az_kL5 h.2.2.2.2.2
theorem zw_L5w {g : Nat → ClassId} {ad : Nat → Nat} {zG : Nat → Nat × Nat} {zO : Nat → Nat} {zX : Nat → Nat → Int64} {zY : Nat → Nat → Int32} {zA : Nat → Nat → Nat → Int32} {zB : Nat → Int32} {zM : Nat → Nat × Nat} {zI : Nat → Nat → Int32} {zL : Nat → Nat → Int64} {zK : Int32} {zN : Nat} {zF : Int32} {zQ : Int64} {L : va_W} (h : az_Sh g ad zG zO zX zY zA zB zM zI zL zK zN zF zQ L) (k : Nat) (x : Int64) : az_Sh g ad zG zO zX zY zA zB zM zI (az_vl zL 5 k x) zK zN zF zQ (L.set 72 (aw_m ad 5, .inl (g 1, 4, .inr (.inl (vp_updL (zL 5) k x))))) := zw_L5 h (vp_updL (zL 5) k x)
theorem zw_L7 {g : Nat → ClassId} {ad : Nat → Nat} {zG : Nat → Nat × Nat} {zO : Nat → Nat} {zX : Nat → Nat → Int64} {zY : Nat → Nat → Int32} {zA : Nat → Nat → Nat → Int32} {zB : Nat → Int32} {zM : Nat → Nat × Nat} {zI : Nat → Nat → Int32} {zL : Nat → Nat → Int64} {zK : Int32} {zN : Nat} {zF : Int32} {zQ : Int64} {L : va_W} (h : az_Sh g ad zG zO zX zY zA zB zM zI zL zK zN zF zQ L) (f : Nat → Int64) : az_Sh g ad zG zO zX zY zA zB zM zI (az_u1 zL 7 f) zK zN zF zQ (L.set 74 (aw_m ad 7, .inl (g 1, 4, .inr (.inl f)))) := az_setM (i := 7) h (by decide) (show az_shM g ad zM zI (az_u1 zL 7 f) zK zN zF 7 _ from (by show _ = _; rw [show az_u1 zL 7 f 7 = f from if_pos rfl])) az_kL7 h.2.2.2.2.2
theorem zw_L7w {g : Nat → ClassId} {ad : Nat → Nat} {zG : Nat → Nat × Nat} {zO : Nat → Nat} {zX : Nat → Nat → Int64} {zY : Nat → Nat → Int32} {zA : Nat → Nat → Nat → Int32} {zB : Nat → Int32} {zM : Nat → Nat × Nat} {zI : Nat → Nat → Int32} {zL : Nat → Nat → Int64} {zK : Int32} {zN : Nat} {zF : Int32} {zQ : Int64} {L : va_W} (h : az_Sh g ad zG zO zX zY zA zB zM zI zL zK zN zF zQ L) (k : Nat) (x : Int64) : az_Sh g ad zG zO zX zY zA zB zM zI (az_vl zL 7 k x) zK zN zF zQ (L.set 74 (aw_m ad 7, .inl (g 1, 4, .inr (.inl (vp_updL (zL 7) k x))))) := zw_L7 h (vp_updL (zL 7) k x)
theorem zw_L8 {g : Nat → ClassId} {ad : Nat → Nat} {zG : Nat → Nat × Nat} {zO : Nat → Nat} {zX : Nat → Nat → Int64} {zY : Nat → Nat → Int32} {zA : Nat → Nat → Nat → Int32} {zB : Nat → Int32} {zM : Nat → Nat × Nat} {zI : Nat → Nat → Int32} {zL : Nat → Nat → Int64} {zK : Int32} {zN : Nat} {zF : Int32} {zQ : Int64} {L : va_W} (h : az_Sh g ad zG zO zX zY zA zB zM zI zL zK zN zF zQ L) (f : Nat → Int64) : az_Sh g ad zG zO zX zY zA zB zM zI (az_u1 zL 8 f) zK zN zF zQ (L.set 75 (aw_m ad 8, .inl (g 1, 4, .inr (.inl f)))) := az_setM (i := 8) h (by decide) (show az_shM g ad zM zI (az_u1 zL 8 f) zK zN zF 8 _ from (by show _ = _; rw [show az_u1 zL 8 f 8 = f from if_pos rfl])) az_kL8 h.2.2.2.2.2
theorem zw_L8w {g : Nat → ClassId} {ad : Nat → Nat} {zG : Nat → Nat × Nat} {zO : Nat → Nat} {zX : Nat → Nat → Int64} {zY : Nat → Nat → Int32} {zA : Nat → Nat → Nat → Int32} {zB : Nat → Int32} {zM : Nat → Nat × Nat} {zI : Nat → Nat → Int32} {zL : Nat → Nat → Int64} {zK : Int32} {zN : Nat} {zF : Int32} {zQ : Int64} {L : va_W} (h : az_Sh g ad zG zO zX zY zA zB zM zI zL zK zN zF zQ L) (k : Nat) (x : Int64) : az_Sh g ad zG zO zX zY zA zB zM zI (az_vl zL 8 k x) zK zN zF zQ (L.set 75 (aw_m ad 8, .inl (g 1, 4, .inr (.inl (vp_updL (zL 8) k x))))) := zw_L8 h (vp_updL (zL 8) k x)
theorem zw_L12 {g : Nat → ClassId} {ad : Nat → Nat} {zG : Nat → Nat × Nat} {zO : Nat → Nat} {zX : Nat → Nat → Int64} {zY : Nat → Nat → Int32} {zA : Nat → Nat → Nat → Int32} {zB : Nat → Int32} {zM : Nat → Nat × Nat} {zI : Nat → Nat → Int32} {zL : Nat → Nat → Int64} {zK : Int32} {zN : Nat} {zF : Int32} {zQ : Int64} {L : va_W} (h : az_Sh g ad zG zO zX zY zA zB zM zI zL zK zN zF zQ L) (f : Nat → Int64) : az_Sh g ad zG zO zX zY zA zB zM zI (az_u1 zL 12 f) zK zN zF zQ (L.set 79 (aw_m ad 12, .inl (g 1, 4, .inr (.inl f)))) := az_setM (i := 12) h (by decide) (show az_shM g ad zM zI (az_u1 zL 12 f) zK zN zF 12 _ from (by show _ = _; rw [show az_u1 zL 12 f 12 = f from if_pos rfl])) az_kL12 h.2.2.2.2.2
theorem zw_L12w {g : Nat → ClassId} {ad : Nat → Nat} {zG : Nat → Nat × Nat} {zO : Nat → Nat} {zX : Nat → Nat → Int64} {zY : Nat → Nat → Int32} {zA : Nat → Nat → Nat → Int32} {zB : Nat → Int32} {zM : Nat → Nat × Nat} {zI : Nat → Nat → Int32} {zL : Nat → Nat → Int64} {zK : Int32} {zN : Nat} {zF : Int32} {zQ : Int64} {L : va_W} (h : az_Sh g ad zG zO zX zY zA zB zM zI zL zK zN zF zQ L) (k : Nat) (x : Int64) : az_Sh g ad zG zO zX zY zA zB zM zI (az_vl zL 12 k x) zK zN zF zQ (L.set 79 (aw_m ad 12, .inl (g 1, 4, .inr (.inl (vp_updL (zL 12) k x))))) := zw_L12 h (vp_updL (zL 12) k x)
theorem zw_L13 {g : Nat → ClassId} {ad : Nat → Nat} {zG : Nat → Nat × Nat} {zO : Nat → Nat} {zX : Nat → Nat → Int64} {zY : Nat → Nat → Int32} {zA : Nat → Nat → Nat → Int32} {zB : Nat → Int32} {zM : Nat → Nat × Nat} {zI : Nat → Nat → Int32} {zL : Nat → Nat → Int64} {zK : Int32} {zN : Nat} {zF : Int32} {zQ : Int64} {L : va_W} (h : az_Sh g ad zG zO zX zY zA zB zM zI zL zK zN zF zQ L) (f : Nat → Int64) : az_Sh g ad zG zO zX zY zA zB zM zI (az_u1 zL 13 f) zK zN zF zQ (L.set 80 (aw_m ad 13, .inl (g 1, 4, .inr (.inl f)))) := az_setM (i := 13) h (by decide) (show az_shM g ad zM zI (az_u1 zL 13 f) zK zN zF 13 _ from (by show _ = _; rw [show az_u1 zL 13 f 13 = f from if_pos rfl])) az_kL13 h.2.2.2.2.2
theorem zw_L13w {g : Nat → ClassId} {ad : Nat → Nat} {zG : Nat → Nat × Nat} {zO : Nat → Nat} {zX : Nat → Nat → Int64} {zY : Nat → Nat → Int32} {zA : Nat → Nat → Nat → Int32} {zB : Nat → Int32} {zM : Nat → Nat × Nat} {zI : Nat → Nat → Int32} {zL : Nat → Nat → Int64} {zK : Int32} {zN : Nat} {zF : Int32} {zQ : Int64} {L : va_W} (h : az_Sh g ad zG zO zX zY zA zB zM zI zL zK zN zF zQ L) (k : Nat) (x : Int64) : az_Sh g ad zG zO zX zY zA zB zM zI (az_vl zL 13 k x) zK zN zF zQ (L.set 80 (aw_m ad 13, .inl (g 1, 4, .inr (.inl (vp_updL (zL 13) k x))))) := zw_L13 h (vp_updL (zL 13) k x)
theorem zw_F {g : Nat → ClassId} {ad : Nat → Nat} {zG : Nat → Nat × Nat} {zO : Nat → Nat} {zX : Nat → Nat → Int64} {zY : Nat → Nat → Int32} {zA : Nat → Nat → Nat → Int32} {zB : Nat → Int32} {zM : Nat → Nat × Nat} {zI : Nat → Nat → Int32} {zL : Nat → Nat → Int64} {zK : Int32} {zN : Nat} {zF : Int32} {zQ : Int64} {L : va_W} (h : az_Sh g ad zG zO zX zY zA zB zM zI zL zK zN zF zQ L) (v : Int32) : az_Sh g ad zG zO zX zY zA zB zM zI zL zK zN (v) zQ (L.set 67 (aw_m ad 0, .inr (8, [.int v, .ref (aw_m ad 1), .ref (aw_m ad 2), .ref (aw_m ad 3), .ref (aw_m ad 4), .ref (aw_m ad 5), .ref (aw_m ad 6), .ref (aw_m ad 7), .ref (aw_m ad 8), .ref (aw_m ad 9), .ref (aw_m ad 10), .ref (aw_m ad 11), .ref (aw_m ad 12), .ref (aw_m ad 13), .ref (aw_m ad 14), .int zK, .int (nI zN), .ref (aw_m ad 15), .ref (aw_m ad 16)]))) := az_setM (i := 0) h (by decide) (show az_shM g ad zM zI zL zK zN v 0 _ from ⟨(zr_M0 h).1, rfl⟩) az_kF h.2.2.2.2.2
theorem zw_K {g : Nat → ClassId} {ad : Nat → Nat} {zG : Nat → Nat × Nat} {zO : Nat → Nat} {zX : Nat → Nat → Int64} {zY : Nat → Nat → Int32} {zA : Nat → Nat → Nat → Int32} {zB : Nat → Int32} {zM : Nat → Nat × Nat} {zI : Nat → Nat → Int32} {zL : Nat → Nat → Int64} {zK : Int32} {zN : Nat} {zF : Int32} {zQ : Int64} {L : va_W} (h : az_Sh g ad zG zO zX zY zA zB zM zI zL zK zN zF zQ L) (v : Int32) : az_Sh g ad zG zO zX zY zA zB zM zI zL (v) zN zF zQ (L.set 67 (aw_m ad 0, .inr (8, [.int zF, .ref (aw_m ad 1), .ref (aw_m ad 2), .ref (aw_m ad 3), .ref (aw_m ad 4), .ref (aw_m ad 5), .ref (aw_m ad 6), .ref (aw_m ad 7), .ref (aw_m ad 8), .ref (aw_m ad 9), .ref (aw_m ad 10), .ref (aw_m ad 11), .ref (aw_m ad 12), .ref (aw_m ad 13), .ref (aw_m ad 14), .int v, .int (nI zN), .ref (aw_m ad 15), .ref (aw_m ad 16)]))) := az_setM (i := 0) h (by decide) (show az_shM g ad zM zI zL v zN zF 0 _ from ⟨(zr_M0 h).1, rfl⟩) az_kK h.2.2.2.2.2
theorem zw_N {g : Nat → ClassId} {ad : Nat → Nat} {zG : Nat → Nat × Nat} {zO : Nat → Nat} {zX : Nat → Nat → Int64} {zY : Nat → Nat → Int32} {zA : Nat → Nat → Nat → Int32} {zB : Nat → Int32} {zM : Nat → Nat × Nat} {zI : Nat → Nat → Int32} {zL : Nat → Nat → Int64} {zK : Int32} {zN : Nat} {zF : Int32} {zQ : Int64} {L : va_W} (h : az_Sh g ad zG zO zX zY zA zB zM zI zL zK zN zF zQ L) (v : Nat) (hv : v ≤ 52) : az_Sh g ad zG zO zX zY zA zB zM zI zL zK (v) zF zQ (L.set 67 (aw_m ad 0, .inr (8, [.int zF, .ref (aw_m ad 1), .ref (aw_m ad 2), .ref (aw_m ad 3), .ref (aw_m ad 4), .ref (aw_m ad 5), .ref (aw_m ad 6), .ref (aw_m ad 7), .ref (aw_m ad 8), .ref (aw_m ad 9), .ref (aw_m ad 10), .ref (aw_m ad 11), .ref (aw_m ad 12), .ref (aw_m ad 13), .ref (aw_m ad 14), .int zK, .int (nI v), .ref (aw_m ad 15), .ref (aw_m ad 16)]))) := az_setM (i := 0) h (by decide) (show az_shM g ad zM zI zL zK v zF 0 _ from ⟨hv, rfl⟩) az_kN h.2.2.2.2.2
