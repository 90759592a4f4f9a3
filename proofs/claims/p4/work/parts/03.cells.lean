/-! The cells of the whole world, their shapes; rows that read a shape, and rows that keep it over a write. Written by cells.py. -/
def aw_c (ad : Nat → Nat) (j i : Nat) : Nat := ad (3 + 16 * j + i)
def aw_r (ad : Nat → Nat) (i : Nat) : Nat := ad i
def aw_m (ad : Nat → Nat) (i : Nat) : Nat := ad (67 + i)
def aw_o (ad : Nat → Nat) : Nat := ad 84
def aw_cof (o : Nat) : Prop := o = 2 ∨ o = 5 ∨ o = 7 ∨ o = 10 ∨ o = 12
def aw_shC (g : Nat → ClassId) (ad : Nat → Nat) (G : Nat → Nat × Nat) (j : Nat) : Nat → va_E → Prop
  | 0, e => ∃ o : Nat, ∃ a : Int64, ∃ b : Int64, ∃ c : Int64, ∃ n : Int32, ∃ f : Int32, aw_cof o ∧ e = .inr (1, [.ref (aw_c ad j 1), .ref (aw_c ad j 15), .int (nI (G j).1), .int (nI (G j).2), .ref (aw_c ad j o), .long a, .long b, .long c, .int n, .int f])
  | 1, e => ∃ f : Nat → Option Nat, (f 0 = some (aw_c ad j 2) ∧ f 1 = some (aw_c ad j 5) ∧ f 2 = some (aw_c ad j 7) ∧ f 3 = some (aw_c ad j 10) ∧ f 4 = some (aw_c ad j 12)) ∧ e = .inl (g 2, 5, .inr (.inr (.inr (.inr f))))
  | 2, e => e = .inr (3, [.ref (aw_c ad j 3), .ref (aw_c ad j 4)])
  | 3, e => ∃ f : Nat → Int32, e = .inl (g 0, 26, .inl f)
  | 4, e => ∃ f : Nat → Int32, e = .inl (g 0, 4, .inl f)
  | 5, e => e = .inr (4, [.ref (aw_c ad j 6)])
  | 6, e => ∃ f : Nat → Int32, e = .inl (g 0, 4, .inl f)
  | 7, e => e = .inr (5, [.ref (aw_c ad j 8), .ref (aw_c ad j 9)])
  | 8, e => ∃ f : Nat → Int32, e = .inl (g 0, 27, .inl f)
  | 9, e => ∃ f : Nat → Int32, e = .inl (g 0, 3, .inl f)
  | 10, e => e = .inr (6, [.ref (aw_c ad j 11)])
  | 11, e => ∃ f : Nat → Int32, e = .inl (g 0, 44, .inl f)
  | 12, e => e = .inr (7, [.ref (aw_c ad j 13), .ref (aw_c ad j 14)])
  | 13, e => ∃ f : Nat → Int32, e = .inl (g 0, 52, .inl f)
  | 14, e => ∃ f : Nat → Int32, e = .inl (g 0, 52, .inl f)
  | _, e => ∃ n : Int32, ∃ a : Int64, ∃ b : Int64, ∃ f : Int32, e = .inr (2, [.int n, .long a, .long b, .int f])
def aw_shR (g : Nat → ClassId) (ad : Nat → Nat) : Nat → va_E → Prop
  | 0, e => e = .inr (0, [.ref (aw_r ad 1), .ref (aw_r ad 2)])
  | 1, e => ∃ f : Nat → Option Nat, (∀ k, k < 4 → f k = some (aw_c ad k 0)) ∧ e = .inl (g 3, 4, .inr (.inr (.inr (.inr f))))
  | _, e => ∃ f : Nat → Int32, e = .inl (g 0, 64, .inl f)
def aw_shM (g : Nat → ClassId) (ad : Nat → Nat) (M : Nat → Nat × Nat) (F : Int32) : Nat → va_E → Prop
  | 0, e => ∃ n : Int32, ∃ wn : Nat, wn ≤ 52 ∧ e = .inr (8, [.int F, .ref (aw_m ad 1), .ref (aw_m ad 2), .ref (aw_m ad 3), .ref (aw_m ad 4), .ref (aw_m ad 5), .ref (aw_m ad 6), .ref (aw_m ad 7), .ref (aw_m ad 8), .ref (aw_m ad 9), .ref (aw_m ad 10), .ref (aw_m ad 11), .ref (aw_m ad 12), .ref (aw_m ad 13), .ref (aw_m ad 14), .int n, .int (nI wn), .ref (aw_m ad 15), .ref (aw_m ad 16)])
  | 1, e => ∃ f : Nat → Int32, e = .inl (g 0, 64, .inl f)
  | 2, e => ∃ f : Nat → Int32, (∀ k, k < 4 → f k = nI (M k).1) ∧ e = .inl (g 0, 4, .inl f)
  | 3, e => ∃ f : Nat → Int32, e = .inl (g 0, 4, .inl f)
  | 4, e => ∃ f : Nat → Int64, e = .inl (g 1, 4, .inr (.inl f))
  | 5, e => ∃ f : Nat → Int64, e = .inl (g 1, 4, .inr (.inl f))
  | 6, e => ∃ f : Nat → Int32, (∀ k, k < 4 → f k = nI (M k).2) ∧ e = .inl (g 0, 4, .inl f)
  | 7, e => ∃ f : Nat → Int64, e = .inl (g 1, 4, .inr (.inl f))
  | 8, e => ∃ f : Nat → Int64, e = .inl (g 1, 4, .inr (.inl f))
  | 9, e => ∃ f : Nat → Int32, e = .inl (g 0, 4, .inl f)
  | 10, e => ∃ f : Nat → Int32, e = .inl (g 0, 4, .inl f)
  | 11, e => ∃ f : Nat → Int32, e = .inl (g 0, 4, .inl f)
  | 12, e => ∃ f : Nat → Int64, e = .inl (g 1, 4, .inr (.inl f))
  | 13, e => ∃ f : Nat → Int64, e = .inl (g 1, 4, .inr (.inl f))
  | 14, e => ∃ f : Nat → Int32, e = .inl (g 0, 4, .inl f)
  | 15, e => ∃ f : Nat → Int32, e = .inl (g 0, 52, .inl f)
  | _, e => ∃ f : Nat → Int32, e = .inl (g 0, 32, .inl f)
def aw_gok (G : Nat → Nat × Nat) : Prop := ∀ k, k < 4 → (G k).1 ≤ 3 ∧ (G k).2 ≤ 5
def aw_Sh (g : Nat → ClassId) (ad : Nat → Nat) (G M : Nat → Nat × Nat) (F : Int32) (L : va_W) : Prop :=
  (∀ j i, j < 4 → i < 16 → ∃ e, L[3 + 16 * j + i]? = some (aw_c ad j i, e) ∧ aw_shC g ad G j i e) ∧
  (∀ i, i < 3 → ∃ e, L[i]? = some (aw_r ad i, e) ∧ aw_shR g ad i e) ∧
  (∀ i, i < 17 → ∃ e, L[67 + i]? = some (aw_m ad i, e) ∧ aw_shM g ad M F i e) ∧
  (∃ f : Nat → Int64, L[84]? = some (aw_o ad, .inl (g 1, 1, .inr (.inl f)))) ∧ aw_gok G ∧ aw_gok M
def aw_g1 (G : Nat → Nat × Nat) (j x : Nat) : Nat → Nat × Nat := fun k => if k = j then (x, (G k).2) else G k
def aw_g2 (G : Nat → Nat × Nat) (j x : Nat) : Nat → Nat × Nat := fun k => if k = j then ((G k).1, x) else G k
theorem aw_g1s (G : Nat → Nat × Nat) (j x : Nat) : aw_g1 G j x j = (x, (G j).2) := by simp [aw_g1]
theorem aw_g2s (G : Nat → Nat × Nat) (j x : Nat) : aw_g2 G j x j = ((G j).1, x) := by simp [aw_g2]
theorem aw_g1n (G : Nat → Nat × Nat) {j k : Nat} (x : Nat) (h : k ≠ j) : aw_g1 G j x k = G k := by simp [aw_g1, h]
theorem aw_g2n (G : Nat → Nat × Nat) {j k : Nat} (x : Nat) (h : k ≠ j) : aw_g2 G j x k = G k := by simp [aw_g2, h]
theorem aw_g1k {G : Nat → Nat × Nat} {j x : Nat} (h : aw_gok G) (hx : x ≤ 3) : aw_gok (aw_g1 G j x) := fun k hk => by
  by_cases e : k = j
  · rw [e, aw_g1s]; exact ⟨hx, (h j (e ▸ hk)).2⟩
  · rw [aw_g1n G x e]; exact h k hk
theorem aw_g2k {G : Nat → Nat × Nat} {j x : Nat} (h : aw_gok G) (hx : x ≤ 5) : aw_gok (aw_g2 G j x) := fun k hk => by
  by_cases e : k = j
  · rw [e, aw_g2s]; exact ⟨(h j (e ▸ hk)).1, hx⟩
  · rw [aw_g2n G x e]; exact h k hk
theorem aw_g12 (G : Nat → Nat × Nat) (j x y : Nat) : aw_g1 (aw_g2 G j y) j x = aw_g2 (aw_g1 G j x) j y := by
  funext k
  by_cases e : k = j <;> simp [aw_g1, aw_g2, e]
theorem aw_gs {α : Type} {L : List α} {p k : Nat} {x y : α} (hk : L[k]? = some y) (hp : p ≠ k) : (L.set p x)[k]? = some y := by rw [List.getElem?_set_ne hp]; exact hk
theorem aw_gS {α : Type} {L : List α} {p : Nat} {x y : α} (hk : L[p]? = some y) : (L.set p x)[p]? = some x := List.getElem?_set_self (List.getElem?_eq_some_iff.mp hk).1
theorem aw_shCG {g : Nat → ClassId} {ad : Nat → Nat} {G G' : Nat → Nat × Nat} {j i : Nat} {e : va_E} (h : G' j = G j) (hs : aw_shC g ad G j i e) : aw_shC g ad G' j i e := by
  match i, hs with
  | 0, hs => have hs : ∃ o : Nat, ∃ a : Int64, ∃ b : Int64, ∃ c : Int64, ∃ n : Int32, ∃ f : Int32, aw_cof o ∧ e = .inr (1, [.ref (aw_c ad j 1), .ref (aw_c ad j 15), .int (nI (G j).1), .int (nI (G j).2), .ref (aw_c ad j o), .long a, .long b, .long c, .int n, .int f]) := hs; have hg : ∃ o : Nat, ∃ a : Int64, ∃ b : Int64, ∃ c : Int64, ∃ n : Int32, ∃ f : Int32, aw_cof o ∧ e = .inr (1, [.ref (aw_c ad j 1), .ref (aw_c ad j 15), .int (nI (G' j).1), .int (nI (G' j).2), .ref (aw_c ad j o), .long a, .long b, .long c, .int n, .int f]) := (by rw [h]; exact hs); exact hg
  | 1, hs => exact hs
  | 2, hs => exact hs
  | 3, hs => exact hs
  | 4, hs => exact hs
  | 5, hs => exact hs
  | 6, hs => exact hs
  | 7, hs => exact hs
  | 8, hs => exact hs
  | 9, hs => exact hs
  | 10, hs => exact hs
  | 11, hs => exact hs
  | 12, hs => exact hs
  | 13, hs => exact hs
  | 14, hs => exact hs
  | _ + 15, hs => exact hs
theorem aw_shCn {g : Nat → ClassId} {ad : Nat → Nat} {G G' : Nat → Nat × Nat} {j i : Nat} {e : va_E} (h : i ≠ 0) (hs : aw_shC g ad G j i e) : aw_shC g ad G' j i e := by
  match i, h, hs with
  | 0, h, hs => exact absurd rfl h
  | 1, h, hs => exact hs
  | 2, h, hs => exact hs
  | 3, h, hs => exact hs
  | 4, h, hs => exact hs
  | 5, h, hs => exact hs
  | 6, h, hs => exact hs
  | 7, h, hs => exact hs
  | 8, h, hs => exact hs
  | 9, h, hs => exact hs
  | 10, h, hs => exact hs
  | 11, h, hs => exact hs
  | 12, h, hs => exact hs
  | 13, h, hs => exact hs
  | 14, h, hs => exact hs
  | _ + 15, h, hs => exact hs
theorem aw_setCG {g : Nat → ClassId} {ad : Nat → Nat} {G M : Nat → Nat × Nat} {F : Int32} {L : va_W} {G' : Nat → Nat × Nat} (h : aw_Sh g ad G M F L) {j i : Nat} {e : va_E} (hj : j < 4) (hi : i < 16) (he : aw_shC g ad G' j i e) (hG : ∀ k, k ≠ j → G' k = G k) (hi0 : G' j = G j ∨ i = 0) (hk : aw_gok G') : aw_Sh g ad G' M F (L.set (3 + 16 * j + i) (aw_c ad j i, e)) := by
  obtain ⟨h1, h2, h3, ⟨f, h4⟩, h5, h6⟩ := h
  obtain ⟨e0, hL0, hs0⟩ := h1 j i hj hi
  refine ⟨fun k q hk hq => ?_, fun q hq => ?_, fun q hq => ?_, ⟨f, aw_gs h4 (by omega)⟩, hk, h6⟩
  · by_cases hkq : k = j ∧ q = i
    · obtain ⟨rfl, rfl⟩ := hkq
      exact ⟨e, aw_gS hL0, he⟩
    · obtain ⟨e1, hL1, hs1⟩ := h1 k q hk hq
      refine ⟨e1, aw_gs hL1 (by omega), ?_⟩
      by_cases hkj : k = j
      · subst hkj
        rcases hi0 with hi0 | hi0
        · exact aw_shCG hi0 hs1
        · exact aw_shCn (fun z => hkq ⟨rfl, z.trans hi0.symm⟩) hs1
      · exact aw_shCG (hG k hkj) hs1
  · obtain ⟨e1, hL1, hs1⟩ := h2 q hq
    exact ⟨e1, aw_gs hL1 (by omega), hs1⟩
  · obtain ⟨e1, hL1, hs1⟩ := h3 q hq
    exact ⟨e1, aw_gs hL1 (by omega), hs1⟩
theorem aw_setC {g : Nat → ClassId} {ad : Nat → Nat} {G M : Nat → Nat × Nat} {F : Int32} {L : va_W} (h : aw_Sh g ad G M F L) {j i : Nat} {e : va_E} (hj : j < 4) (hi : i < 16) (he : aw_shC g ad G j i e) : aw_Sh g ad G M F (L.set (3 + 16 * j + i) (aw_c ad j i, e)) := aw_setCG h hj hi he (fun _ _ => rfl) (Or.inl rfl) h.2.2.2.2.1
theorem aw_setR {g : Nat → ClassId} {ad : Nat → Nat} {G M : Nat → Nat × Nat} {F : Int32} {L : va_W} (h : aw_Sh g ad G M F L) {i : Nat} {e : va_E} (hi : i < 3) (he : aw_shR g ad i e) : aw_Sh g ad G M F (L.set i (aw_r ad i, e)) := by
  obtain ⟨h1, h2, h3, ⟨f, h4⟩, h5⟩ := h
  obtain ⟨e0, hL0, hs0⟩ := h2 i hi
  refine ⟨fun k q hk hq => ?_, fun q hq => ?_, fun q hq => ?_, ⟨f, aw_gs h4 (by omega)⟩, h5⟩
  · obtain ⟨e1, hL1, hs1⟩ := h1 k q hk hq
    exact ⟨e1, aw_gs hL1 (by omega), hs1⟩
  · by_cases hqi : q = i
    · subst hqi
      exact ⟨e, aw_gS hL0, he⟩
    · obtain ⟨e1, hL1, hs1⟩ := h2 q hq
      exact ⟨e1, aw_gs hL1 (by omega), hs1⟩
  · obtain ⟨e1, hL1, hs1⟩ := h3 q hq
    exact ⟨e1, aw_gs hL1 (by omega), hs1⟩
theorem aw_setMG {g : Nat → ClassId} {ad : Nat → Nat} {G M : Nat → Nat × Nat} {F : Int32} {L : va_W} {M' : Nat → Nat × Nat} {F' : Int32} (h : aw_Sh g ad G M F L) {i : Nat} {e : va_E} (hi : i < 17) (he : aw_shM g ad M' F' i e) (hk : ∀ q e, q ≠ i → aw_shM g ad M F q e → aw_shM g ad M' F' q e) (hM : aw_gok M') : aw_Sh g ad G M' F' (L.set (67 + i) (aw_m ad i, e)) := by
  obtain ⟨h1, h2, h3, ⟨f, h4⟩, h5, h6⟩ := h
  obtain ⟨e0, hL0, hs0⟩ := h3 i hi
  refine ⟨fun k q hk hq => ?_, fun q hq => ?_, fun q hq => ?_, ⟨f, aw_gs h4 (by omega)⟩, h5, hM⟩
  · obtain ⟨e1, hL1, hs1⟩ := h1 k q hk hq
    exact ⟨e1, aw_gs hL1 (by omega), hs1⟩
  · obtain ⟨e1, hL1, hs1⟩ := h2 q hq
    exact ⟨e1, aw_gs hL1 (by omega), hs1⟩
  · by_cases hqi : q = i
    · subst hqi
      exact ⟨e, aw_gS hL0, he⟩
    · obtain ⟨e1, hL1, hs1⟩ := h3 q hq
      exact ⟨e1, aw_gs hL1 (by omega), hk q e1 hqi hs1⟩
theorem aw_setM {g : Nat → ClassId} {ad : Nat → Nat} {G M : Nat → Nat × Nat} {F : Int32} {L : va_W} (h : aw_Sh g ad G M F L) {i : Nat} {e : va_E} (hi : i < 17) (he : aw_shM g ad M F i e) : aw_Sh g ad G M F (L.set (67 + i) (aw_m ad i, e)) := aw_setMG h hi he (fun _ _ _ z => z) h.2.2.2.2.2
theorem aw_setO {g : Nat → ClassId} {ad : Nat → Nat} {G M : Nat → Nat × Nat} {F : Int32} {L : va_W} (h : aw_Sh g ad G M F L) (f : Nat → Int64) : aw_Sh g ad G M F (L.set 84 (aw_o ad, .inl (g 1, 1, .inr (.inl f)))) := by
  obtain ⟨h1, h2, h3, ⟨f0, h4⟩, h5⟩ := h
  refine ⟨fun k q hk hq => ?_, fun q hq => ?_, fun q hq => ?_, ⟨f, aw_gS h4⟩, h5⟩
  · obtain ⟨e1, hL1, hs1⟩ := h1 k q hk hq
    exact ⟨e1, aw_gs hL1 (by omega), hs1⟩
  · obtain ⟨e1, hL1, hs1⟩ := h2 q hq
    exact ⟨e1, aw_gs hL1 (by omega), hs1⟩
  · obtain ⟨e1, hL1, hs1⟩ := h3 q hq
    exact ⟨e1, aw_gs hL1 (by omega), hs1⟩
theorem aw_sF {g : Nat → ClassId} {ad : Nat → Nat} {M : Nat → Nat × Nat} {F : Int32} {F' : Int32} {i : Nat} {e : va_E} (h : i ≠ 0) (hs : aw_shM g ad M F i e) : aw_shM g ad M F' i e := by
  match i, h, hs with
  | 0, h, hs => exact absurd rfl h
  | 1, h, hs => exact hs
  | 2, h, hs => exact hs
  | 3, h, hs => exact hs
  | 4, h, hs => exact hs
  | 5, h, hs => exact hs
  | 6, h, hs => exact hs
  | 7, h, hs => exact hs
  | 8, h, hs => exact hs
  | 9, h, hs => exact hs
  | 10, h, hs => exact hs
  | 11, h, hs => exact hs
  | 12, h, hs => exact hs
  | 13, h, hs => exact hs
  | 14, h, hs => exact hs
  | 15, h, hs => exact hs
  | _ + 16, h, hs => exact hs
theorem aw_s1 {g : Nat → ClassId} {ad : Nat → Nat} {M : Nat → Nat × Nat} {F : Int32} {j x : Nat} {i : Nat} {e : va_E} (h : i ≠ 2) (hs : aw_shM g ad M F i e) : aw_shM g ad (aw_g1 M j x) F i e := by
  match i, h, hs with
  | 0, h, hs => exact hs
  | 1, h, hs => exact hs
  | 2, h, hs => exact absurd rfl h
  | 3, h, hs => exact hs
  | 4, h, hs => exact hs
  | 5, h, hs => exact hs
  | 6, h, hs => obtain ⟨f, hf, he⟩ := hs; exact ⟨f, fun k hk => by rw [hf k hk]; by_cases e9 : k = j <;> simp [aw_g1, aw_g2, e9], he⟩
  | 7, h, hs => exact hs
  | 8, h, hs => exact hs
  | 9, h, hs => exact hs
  | 10, h, hs => exact hs
  | 11, h, hs => exact hs
  | 12, h, hs => exact hs
  | 13, h, hs => exact hs
  | 14, h, hs => exact hs
  | 15, h, hs => exact hs
  | _ + 16, h, hs => exact hs
theorem aw_s2 {g : Nat → ClassId} {ad : Nat → Nat} {M : Nat → Nat × Nat} {F : Int32} {j x : Nat} {i : Nat} {e : va_E} (h : i ≠ 6) (hs : aw_shM g ad M F i e) : aw_shM g ad (aw_g2 M j x) F i e := by
  match i, h, hs with
  | 0, h, hs => exact hs
  | 1, h, hs => exact hs
  | 2, h, hs => obtain ⟨f, hf, he⟩ := hs; exact ⟨f, fun k hk => by rw [hf k hk]; by_cases e9 : k = j <;> simp [aw_g1, aw_g2, e9], he⟩
  | 3, h, hs => exact hs
  | 4, h, hs => exact hs
  | 5, h, hs => exact hs
  | 6, h, hs => exact absurd rfl h
  | 7, h, hs => exact hs
  | 8, h, hs => exact hs
  | 9, h, hs => exact hs
  | 10, h, hs => exact hs
  | 11, h, hs => exact hs
  | 12, h, hs => exact hs
  | 13, h, hs => exact hs
  | 14, h, hs => exact hs
  | 15, h, hs => exact hs
  | _ + 16, h, hs => exact hs
theorem rd_C0 {g : Nat → ClassId} {ad : Nat → Nat} {G M : Nat → Nat × Nat} {F : Int32} {L : va_W} (h : aw_Sh g ad G M F L) {j : Nat} (hj : j < 4) : ∃ o : Nat, ∃ a : Int64, ∃ b : Int64, ∃ c : Int64, ∃ n : Int32, ∃ f : Int32, aw_cof o ∧ L[3 + 16 * j + 0]? = some (aw_c ad j 0, .inr (1, [.ref (aw_c ad j 1), .ref (aw_c ad j 15), .int (nI (G j).1), .int (nI (G j).2), .ref (aw_c ad j o), .long a, .long b, .long c, .int n, .int f])) := by
  obtain ⟨e, he, hs⟩ := h.1 j 0 hj (by decide)
  have hs : ∃ o : Nat, ∃ a : Int64, ∃ b : Int64, ∃ c : Int64, ∃ n : Int32, ∃ f : Int32, aw_cof o ∧ e = .inr (1, [.ref (aw_c ad j 1), .ref (aw_c ad j 15), .int (nI (G j).1), .int (nI (G j).2), .ref (aw_c ad j o), .long a, .long b, .long c, .int n, .int f]) := hs
  obtain ⟨o, a, b, c, n, f, hx0, hs⟩ := hs
  exact ⟨o, a, b, c, n, f, hx0, (by rw [hs] at he; exact he)⟩
theorem wr_C0 {g : Nat → ClassId} {ad : Nat → Nat} {G M : Nat → Nat × Nat} {F : Int32} {L : va_W} (h : aw_Sh g ad G M F L) {j : Nat} (hj : j < 4) (o : Nat) (a : Int64) (b : Int64) (c : Int64) (n : Int32) (f : Int32) (hx0 : aw_cof o) : aw_Sh g ad G M F (L.set (3 + 16 * j + 0) (aw_c ad j 0, .inr (1, [.ref (aw_c ad j 1), .ref (aw_c ad j 15), .int (nI (G j).1), .int (nI (G j).2), .ref (aw_c ad j o), .long a, .long b, .long c, .int n, .int f]))) := aw_setC (i := 0) h hj (by decide) (show aw_shC g ad G j 0 (.inr (1, [.ref (aw_c ad j 1), .ref (aw_c ad j 15), .int (nI (G j).1), .int (nI (G j).2), .ref (aw_c ad j o), .long a, .long b, .long c, .int n, .int f])) from ⟨o, a, b, c, n, f, hx0, rfl⟩)
theorem wr_C0s1 {g : Nat → ClassId} {ad : Nat → Nat} {G M : Nat → Nat × Nat} {F : Int32} {L : va_W} (h : aw_Sh g ad G M F L) {j : Nat} (hj : j < 4) (x : Nat) (hx : x ≤ 3) (o : Nat) (a : Int64) (b : Int64) (c : Int64) (n : Int32) (f : Int32) (hx0 : aw_cof o) : aw_Sh g ad (aw_g1 G j x) M F (L.set (3 + 16 * j + 0) (aw_c ad j 0, .inr (1, [.ref (aw_c ad j 1), .ref (aw_c ad j 15), .int (nI x), .int (nI (G j).2), .ref (aw_c ad j o), .long a, .long b, .long c, .int n, .int f]))) := aw_setCG (i := 0) h hj (by decide) (show aw_shC g ad (aw_g1 G j x) j 0 (.inr (1, [.ref (aw_c ad j 1), .ref (aw_c ad j 15), .int (nI x), .int (nI (G j).2), .ref (aw_c ad j o), .long a, .long b, .long c, .int n, .int f])) from ⟨o, a, b, c, n, f, hx0, by simp only [aw_g1s]⟩) (fun k hk => aw_g1n G x hk) (Or.inr rfl) (aw_g1k h.2.2.2.2.1 hx)
theorem wr_C0s2 {g : Nat → ClassId} {ad : Nat → Nat} {G M : Nat → Nat × Nat} {F : Int32} {L : va_W} (h : aw_Sh g ad G M F L) {j : Nat} (hj : j < 4) (x : Nat) (hx : x ≤ 5) (o : Nat) (a : Int64) (b : Int64) (c : Int64) (n : Int32) (f : Int32) (hx0 : aw_cof o) : aw_Sh g ad (aw_g2 G j x) M F (L.set (3 + 16 * j + 0) (aw_c ad j 0, .inr (1, [.ref (aw_c ad j 1), .ref (aw_c ad j 15), .int (nI (G j).1), .int (nI x), .ref (aw_c ad j o), .long a, .long b, .long c, .int n, .int f]))) := aw_setCG (i := 0) h hj (by decide) (show aw_shC g ad (aw_g2 G j x) j 0 (.inr (1, [.ref (aw_c ad j 1), .ref (aw_c ad j 15), .int (nI (G j).1), .int (nI x), .ref (aw_c ad j o), .long a, .long b, .long c, .int n, .int f])) from ⟨o, a, b, c, n, f, hx0, by simp only [aw_g2s]⟩) (fun k hk => aw_g2n G x hk) (Or.inr rfl) (aw_g2k h.2.2.2.2.1 hx)
theorem rd_C1 {g : Nat → ClassId} {ad : Nat → Nat} {G M : Nat → Nat × Nat} {F : Int32} {L : va_W} (h : aw_Sh g ad G M F L) {j : Nat} (hj : j < 4) : ∃ f : Nat → Option Nat, (f 0 = some (aw_c ad j 2) ∧ f 1 = some (aw_c ad j 5) ∧ f 2 = some (aw_c ad j 7) ∧ f 3 = some (aw_c ad j 10) ∧ f 4 = some (aw_c ad j 12)) ∧ L[3 + 16 * j + 1]? = some (aw_c ad j 1, .inl (g 2, 5, .inr (.inr (.inr (.inr f))))) := by
  obtain ⟨e, he, hs⟩ := h.1 j 1 hj (by decide)
  have hs : ∃ f : Nat → Option Nat, (f 0 = some (aw_c ad j 2) ∧ f 1 = some (aw_c ad j 5) ∧ f 2 = some (aw_c ad j 7) ∧ f 3 = some (aw_c ad j 10) ∧ f 4 = some (aw_c ad j 12)) ∧ e = .inl (g 2, 5, .inr (.inr (.inr (.inr f)))) := hs
  obtain ⟨f, hc, hs⟩ := hs
  exact ⟨f, hc, by rw [hs] at he; exact he⟩
theorem rd_C10 {g : Nat → ClassId} {ad : Nat → Nat} {G M : Nat → Nat × Nat} {F : Int32} {L : va_W} (h : aw_Sh g ad G M F L) {j : Nat} (hj : j < 4) : L[3 + 16 * j + 10]? = some (aw_c ad j 10, .inr (6, [.ref (aw_c ad j 11)])) := by
  obtain ⟨e, he, hs⟩ := h.1 j 10 hj (by decide)
  have hs : e = .inr (6, [.ref (aw_c ad j 11)]) := hs
  rw [hs] at he; exact he
theorem rd_C11 {g : Nat → ClassId} {ad : Nat → Nat} {G M : Nat → Nat × Nat} {F : Int32} {L : va_W} (h : aw_Sh g ad G M F L) {j : Nat} (hj : j < 4) : ∃ f : Nat → Int32, L[3 + 16 * j + 11]? = some (aw_c ad j 11, .inl (g 0, 44, .inl f)) := by
  obtain ⟨e, he, hs⟩ := h.1 j 11 hj (by decide)
  have hs : ∃ f : Nat → Int32, e = .inl (g 0, 44, .inl f) := hs
  obtain ⟨f, hs⟩ := hs
  exact ⟨f, by rw [hs] at he; exact he⟩
theorem wr_C11 {g : Nat → ClassId} {ad : Nat → Nat} {G M : Nat → Nat × Nat} {F : Int32} {L : va_W} (h : aw_Sh g ad G M F L) {j : Nat} (hj : j < 4) (f : Nat → Int32) : aw_Sh g ad G M F (L.set (3 + 16 * j + 11) (aw_c ad j 11, .inl (g 0, 44, .inl f))) := aw_setC (i := 11) h hj (by decide) (show aw_shC g ad G j 11 (.inl (g 0, 44, .inl f)) from ⟨f, rfl⟩)
theorem rd_C12 {g : Nat → ClassId} {ad : Nat → Nat} {G M : Nat → Nat × Nat} {F : Int32} {L : va_W} (h : aw_Sh g ad G M F L) {j : Nat} (hj : j < 4) : L[3 + 16 * j + 12]? = some (aw_c ad j 12, .inr (7, [.ref (aw_c ad j 13), .ref (aw_c ad j 14)])) := by
  obtain ⟨e, he, hs⟩ := h.1 j 12 hj (by decide)
  have hs : e = .inr (7, [.ref (aw_c ad j 13), .ref (aw_c ad j 14)]) := hs
  rw [hs] at he; exact he
theorem rd_C13 {g : Nat → ClassId} {ad : Nat → Nat} {G M : Nat → Nat × Nat} {F : Int32} {L : va_W} (h : aw_Sh g ad G M F L) {j : Nat} (hj : j < 4) : ∃ f : Nat → Int32, L[3 + 16 * j + 13]? = some (aw_c ad j 13, .inl (g 0, 52, .inl f)) := by
  obtain ⟨e, he, hs⟩ := h.1 j 13 hj (by decide)
  have hs : ∃ f : Nat → Int32, e = .inl (g 0, 52, .inl f) := hs
  obtain ⟨f, hs⟩ := hs
  exact ⟨f, by rw [hs] at he; exact he⟩
theorem wr_C13 {g : Nat → ClassId} {ad : Nat → Nat} {G M : Nat → Nat × Nat} {F : Int32} {L : va_W} (h : aw_Sh g ad G M F L) {j : Nat} (hj : j < 4) (f : Nat → Int32) : aw_Sh g ad G M F (L.set (3 + 16 * j + 13) (aw_c ad j 13, .inl (g 0, 52, .inl f))) := aw_setC (i := 13) h hj (by decide) (show aw_shC g ad G j 13 (.inl (g 0, 52, .inl f)) from ⟨f, rfl⟩)
theorem rd_C14 {g : Nat → ClassId} {ad : Nat → Nat} {G M : Nat → Nat × Nat} {F : Int32} {L : va_W} (h : aw_Sh g ad G M F L) {j : Nat} (hj : j < 4) : ∃ f : Nat → Int32, L[3 + 16 * j + 14]? = some (aw_c ad j 14, .inl (g 0, 52, .inl f)) := by
  obtain ⟨e, he, hs⟩ := h.1 j 14 hj (by decide)
  have hs : ∃ f : Nat → Int32, e = .inl (g 0, 52, .inl f) := hs
  obtain ⟨f, hs⟩ := hs
  exact ⟨f, by rw [hs] at he; exact he⟩
theorem wr_C14 {g : Nat → ClassId} {ad : Nat → Nat} {G M : Nat → Nat × Nat} {F : Int32} {L : va_W} (h : aw_Sh g ad G M F L) {j : Nat} (hj : j < 4) (f : Nat → Int32) : aw_Sh g ad G M F (L.set (3 + 16 * j + 14) (aw_c ad j 14, .inl (g 0, 52, .inl f))) := aw_setC (i := 14) h hj (by decide) (show aw_shC g ad G j 14 (.inl (g 0, 52, .inl f)) from ⟨f, rfl⟩)
theorem rd_C15 {g : Nat → ClassId} {ad : Nat → Nat} {G M : Nat → Nat × Nat} {F : Int32} {L : va_W} (h : aw_Sh g ad G M F L) {j : Nat} (hj : j < 4) : ∃ n : Int32, ∃ a : Int64, ∃ b : Int64, ∃ f : Int32, L[3 + 16 * j + 15]? = some (aw_c ad j 15, .inr (2, [.int n, .long a, .long b, .int f])) := by
  obtain ⟨e, he, hs⟩ := h.1 j 15 hj (by decide)
  have hs : ∃ n : Int32, ∃ a : Int64, ∃ b : Int64, ∃ f : Int32, e = .inr (2, [.int n, .long a, .long b, .int f]) := hs
  obtain ⟨n, a, b, f, hs⟩ := hs
  exact ⟨n, a, b, f, (by rw [hs] at he; exact he)⟩
theorem wr_C15 {g : Nat → ClassId} {ad : Nat → Nat} {G M : Nat → Nat × Nat} {F : Int32} {L : va_W} (h : aw_Sh g ad G M F L) {j : Nat} (hj : j < 4) (n : Int32) (a : Int64) (b : Int64) (f : Int32) : aw_Sh g ad G M F (L.set (3 + 16 * j + 15) (aw_c ad j 15, .inr (2, [.int n, .long a, .long b, .int f]))) := aw_setC (i := 15) h hj (by decide) (show aw_shC g ad G j 15 (.inr (2, [.int n, .long a, .long b, .int f])) from ⟨n, a, b, f, rfl⟩)
theorem rd_C2 {g : Nat → ClassId} {ad : Nat → Nat} {G M : Nat → Nat × Nat} {F : Int32} {L : va_W} (h : aw_Sh g ad G M F L) {j : Nat} (hj : j < 4) : L[3 + 16 * j + 2]? = some (aw_c ad j 2, .inr (3, [.ref (aw_c ad j 3), .ref (aw_c ad j 4)])) := by
  obtain ⟨e, he, hs⟩ := h.1 j 2 hj (by decide)
  have hs : e = .inr (3, [.ref (aw_c ad j 3), .ref (aw_c ad j 4)]) := hs
  rw [hs] at he; exact he
theorem rd_C3 {g : Nat → ClassId} {ad : Nat → Nat} {G M : Nat → Nat × Nat} {F : Int32} {L : va_W} (h : aw_Sh g ad G M F L) {j : Nat} (hj : j < 4) : ∃ f : Nat → Int32, L[3 + 16 * j + 3]? = some (aw_c ad j 3, .inl (g 0, 26, .inl f)) := by
  obtain ⟨e, he, hs⟩ := h.1 j 3 hj (by decide)
  have hs : ∃ f : Nat → Int32, e = .inl (g 0, 26, .inl f) := hs
  obtain ⟨f, hs⟩ := hs
  exact ⟨f, by rw [hs] at he; exact he⟩
theorem wr_C3 {g : Nat → ClassId} {ad : Nat → Nat} {G M : Nat → Nat × Nat} {F : Int32} {L : va_W} (h : aw_Sh g ad G M F L) {j : Nat} (hj : j < 4) (f : Nat → Int32) : aw_Sh g ad G M F (L.set (3 + 16 * j + 3) (aw_c ad j 3, .inl (g 0, 26, .inl f))) := aw_setC (i := 3) h hj (by decide) (show aw_shC g ad G j 3 (.inl (g 0, 26, .inl f)) from ⟨f, rfl⟩)
theorem rd_C4 {g : Nat → ClassId} {ad : Nat → Nat} {G M : Nat → Nat × Nat} {F : Int32} {L : va_W} (h : aw_Sh g ad G M F L) {j : Nat} (hj : j < 4) : ∃ f : Nat → Int32, L[3 + 16 * j + 4]? = some (aw_c ad j 4, .inl (g 0, 4, .inl f)) := by
  obtain ⟨e, he, hs⟩ := h.1 j 4 hj (by decide)
  have hs : ∃ f : Nat → Int32, e = .inl (g 0, 4, .inl f) := hs
  obtain ⟨f, hs⟩ := hs
  exact ⟨f, by rw [hs] at he; exact he⟩
theorem wr_C4 {g : Nat → ClassId} {ad : Nat → Nat} {G M : Nat → Nat × Nat} {F : Int32} {L : va_W} (h : aw_Sh g ad G M F L) {j : Nat} (hj : j < 4) (f : Nat → Int32) : aw_Sh g ad G M F (L.set (3 + 16 * j + 4) (aw_c ad j 4, .inl (g 0, 4, .inl f))) := aw_setC (i := 4) h hj (by decide) (show aw_shC g ad G j 4 (.inl (g 0, 4, .inl f)) from ⟨f, rfl⟩)
theorem rd_C5 {g : Nat → ClassId} {ad : Nat → Nat} {G M : Nat → Nat × Nat} {F : Int32} {L : va_W} (h : aw_Sh g ad G M F L) {j : Nat} (hj : j < 4) : L[3 + 16 * j + 5]? = some (aw_c ad j 5, .inr (4, [.ref (aw_c ad j 6)])) := by
  obtain ⟨e, he, hs⟩ := h.1 j 5 hj (by decide)
  have hs : e = .inr (4, [.ref (aw_c ad j 6)]) := hs
  rw [hs] at he; exact he
theorem rd_C6 {g : Nat → ClassId} {ad : Nat → Nat} {G M : Nat → Nat × Nat} {F : Int32} {L : va_W} (h : aw_Sh g ad G M F L) {j : Nat} (hj : j < 4) : ∃ f : Nat → Int32, L[3 + 16 * j + 6]? = some (aw_c ad j 6, .inl (g 0, 4, .inl f)) := by
  obtain ⟨e, he, hs⟩ := h.1 j 6 hj (by decide)
  have hs : ∃ f : Nat → Int32, e = .inl (g 0, 4, .inl f) := hs
  obtain ⟨f, hs⟩ := hs
  exact ⟨f, by rw [hs] at he; exact he⟩
theorem wr_C6 {g : Nat → ClassId} {ad : Nat → Nat} {G M : Nat → Nat × Nat} {F : Int32} {L : va_W} (h : aw_Sh g ad G M F L) {j : Nat} (hj : j < 4) (f : Nat → Int32) : aw_Sh g ad G M F (L.set (3 + 16 * j + 6) (aw_c ad j 6, .inl (g 0, 4, .inl f))) := aw_setC (i := 6) h hj (by decide) (show aw_shC g ad G j 6 (.inl (g 0, 4, .inl f)) from ⟨f, rfl⟩)
theorem rd_C7 {g : Nat → ClassId} {ad : Nat → Nat} {G M : Nat → Nat × Nat} {F : Int32} {L : va_W} (h : aw_Sh g ad G M F L) {j : Nat} (hj : j < 4) : L[3 + 16 * j + 7]? = some (aw_c ad j 7, .inr (5, [.ref (aw_c ad j 8), .ref (aw_c ad j 9)])) := by
  obtain ⟨e, he, hs⟩ := h.1 j 7 hj (by decide)
  have hs : e = .inr (5, [.ref (aw_c ad j 8), .ref (aw_c ad j 9)]) := hs
  rw [hs] at he; exact he
theorem rd_C8 {g : Nat → ClassId} {ad : Nat → Nat} {G M : Nat → Nat × Nat} {F : Int32} {L : va_W} (h : aw_Sh g ad G M F L) {j : Nat} (hj : j < 4) : ∃ f : Nat → Int32, L[3 + 16 * j + 8]? = some (aw_c ad j 8, .inl (g 0, 27, .inl f)) := by
  obtain ⟨e, he, hs⟩ := h.1 j 8 hj (by decide)
  have hs : ∃ f : Nat → Int32, e = .inl (g 0, 27, .inl f) := hs
  obtain ⟨f, hs⟩ := hs
  exact ⟨f, by rw [hs] at he; exact he⟩
theorem wr_C8 {g : Nat → ClassId} {ad : Nat → Nat} {G M : Nat → Nat × Nat} {F : Int32} {L : va_W} (h : aw_Sh g ad G M F L) {j : Nat} (hj : j < 4) (f : Nat → Int32) : aw_Sh g ad G M F (L.set (3 + 16 * j + 8) (aw_c ad j 8, .inl (g 0, 27, .inl f))) := aw_setC (i := 8) h hj (by decide) (show aw_shC g ad G j 8 (.inl (g 0, 27, .inl f)) from ⟨f, rfl⟩)
theorem rd_C9 {g : Nat → ClassId} {ad : Nat → Nat} {G M : Nat → Nat × Nat} {F : Int32} {L : va_W} (h : aw_Sh g ad G M F L) {j : Nat} (hj : j < 4) : ∃ f : Nat → Int32, L[3 + 16 * j + 9]? = some (aw_c ad j 9, .inl (g 0, 3, .inl f)) := by
  obtain ⟨e, he, hs⟩ := h.1 j 9 hj (by decide)
  have hs : ∃ f : Nat → Int32, e = .inl (g 0, 3, .inl f) := hs
  obtain ⟨f, hs⟩ := hs
  exact ⟨f, by rw [hs] at he; exact he⟩
theorem wr_C9 {g : Nat → ClassId} {ad : Nat → Nat} {G M : Nat → Nat × Nat} {F : Int32} {L : va_W} (h : aw_Sh g ad G M F L) {j : Nat} (hj : j < 4) (f : Nat → Int32) : aw_Sh g ad G M F (L.set (3 + 16 * j + 9) (aw_c ad j 9, .inl (g 0, 3, .inl f))) := aw_setC (i := 9) h hj (by decide) (show aw_shC g ad G j 9 (.inl (g 0, 3, .inl f)) from ⟨f, rfl⟩)
theorem rd_M0 {g : Nat → ClassId} {ad : Nat → Nat} {G M : Nat → Nat × Nat} {F : Int32} {L : va_W} (h : aw_Sh g ad G M F L) : ∃ n : Int32, ∃ wn : Nat, wn ≤ 52 ∧ L[67]? = some (aw_m ad 0, .inr (8, [.int F, .ref (aw_m ad 1), .ref (aw_m ad 2), .ref (aw_m ad 3), .ref (aw_m ad 4), .ref (aw_m ad 5), .ref (aw_m ad 6), .ref (aw_m ad 7), .ref (aw_m ad 8), .ref (aw_m ad 9), .ref (aw_m ad 10), .ref (aw_m ad 11), .ref (aw_m ad 12), .ref (aw_m ad 13), .ref (aw_m ad 14), .int n, .int (nI wn), .ref (aw_m ad 15), .ref (aw_m ad 16)])) := by
  obtain ⟨e, he, hs⟩ := h.2.2.1 0 (by decide)
  have hs : ∃ n : Int32, ∃ wn : Nat, wn ≤ 52 ∧ e = .inr (8, [.int F, .ref (aw_m ad 1), .ref (aw_m ad 2), .ref (aw_m ad 3), .ref (aw_m ad 4), .ref (aw_m ad 5), .ref (aw_m ad 6), .ref (aw_m ad 7), .ref (aw_m ad 8), .ref (aw_m ad 9), .ref (aw_m ad 10), .ref (aw_m ad 11), .ref (aw_m ad 12), .ref (aw_m ad 13), .ref (aw_m ad 14), .int n, .int (nI wn), .ref (aw_m ad 15), .ref (aw_m ad 16)]) := hs
  obtain ⟨n, wn, hx0, hs⟩ := hs
  exact ⟨n, wn, hx0, (by rw [hs] at he; exact he)⟩
theorem wr_M0 {g : Nat → ClassId} {ad : Nat → Nat} {G M : Nat → Nat × Nat} {F : Int32} {L : va_W} (h : aw_Sh g ad G M F L) (n : Int32) (wn : Nat) (hx0 : wn ≤ 52) : aw_Sh g ad G M F (L.set 67 (aw_m ad 0, .inr (8, [.int F, .ref (aw_m ad 1), .ref (aw_m ad 2), .ref (aw_m ad 3), .ref (aw_m ad 4), .ref (aw_m ad 5), .ref (aw_m ad 6), .ref (aw_m ad 7), .ref (aw_m ad 8), .ref (aw_m ad 9), .ref (aw_m ad 10), .ref (aw_m ad 11), .ref (aw_m ad 12), .ref (aw_m ad 13), .ref (aw_m ad 14), .int n, .int (nI wn), .ref (aw_m ad 15), .ref (aw_m ad 16)]))) := aw_setM (i := 0) h (by decide) (show aw_shM g ad M F 0 (.inr (8, [.int F, .ref (aw_m ad 1), .ref (aw_m ad 2), .ref (aw_m ad 3), .ref (aw_m ad 4), .ref (aw_m ad 5), .ref (aw_m ad 6), .ref (aw_m ad 7), .ref (aw_m ad 8), .ref (aw_m ad 9), .ref (aw_m ad 10), .ref (aw_m ad 11), .ref (aw_m ad 12), .ref (aw_m ad 13), .ref (aw_m ad 14), .int n, .int (nI wn), .ref (aw_m ad 15), .ref (aw_m ad 16)])) from ⟨n, wn, hx0, rfl⟩)
theorem wr_M0F {g : Nat → ClassId} {ad : Nat → Nat} {G M : Nat → Nat × Nat} {F : Int32} {L : va_W} (h : aw_Sh g ad G M F L) (F' : Int32) (n : Int32) (wn : Nat) (hx0 : wn ≤ 52) : aw_Sh g ad G M F' (L.set 67 (aw_m ad 0, .inr (8, [.int F', .ref (aw_m ad 1), .ref (aw_m ad 2), .ref (aw_m ad 3), .ref (aw_m ad 4), .ref (aw_m ad 5), .ref (aw_m ad 6), .ref (aw_m ad 7), .ref (aw_m ad 8), .ref (aw_m ad 9), .ref (aw_m ad 10), .ref (aw_m ad 11), .ref (aw_m ad 12), .ref (aw_m ad 13), .ref (aw_m ad 14), .int n, .int (nI wn), .ref (aw_m ad 15), .ref (aw_m ad 16)]))) := aw_setMG h (i := 0) (by decide) (show aw_shM g ad M F' 0 (.inr (8, [.int F', .ref (aw_m ad 1), .ref (aw_m ad 2), .ref (aw_m ad 3), .ref (aw_m ad 4), .ref (aw_m ad 5), .ref (aw_m ad 6), .ref (aw_m ad 7), .ref (aw_m ad 8), .ref (aw_m ad 9), .ref (aw_m ad 10), .ref (aw_m ad 11), .ref (aw_m ad 12), .ref (aw_m ad 13), .ref (aw_m ad 14), .int n, .int (nI wn), .ref (aw_m ad 15), .ref (aw_m ad 16)])) from ⟨n, wn, hx0, rfl⟩) (fun q e hq hs => aw_sF hq hs) h.2.2.2.2.2
theorem rd_M1 {g : Nat → ClassId} {ad : Nat → Nat} {G M : Nat → Nat × Nat} {F : Int32} {L : va_W} (h : aw_Sh g ad G M F L) : ∃ f : Nat → Int32, L[68]? = some (aw_m ad 1, .inl (g 0, 64, .inl f)) := by
  obtain ⟨e, he, hs⟩ := h.2.2.1 1 (by decide)
  have hs : ∃ f : Nat → Int32, e = .inl (g 0, 64, .inl f) := hs
  obtain ⟨f, hs⟩ := hs
  exact ⟨f, by rw [hs] at he; exact he⟩
theorem wr_M1 {g : Nat → ClassId} {ad : Nat → Nat} {G M : Nat → Nat × Nat} {F : Int32} {L : va_W} (h : aw_Sh g ad G M F L) (f : Nat → Int32) : aw_Sh g ad G M F (L.set 68 (aw_m ad 1, .inl (g 0, 64, .inl f))) := aw_setM (i := 1) h (by decide) (show aw_shM g ad M F 1 (.inl (g 0, 64, .inl f)) from ⟨f, rfl⟩)
theorem rd_M10 {g : Nat → ClassId} {ad : Nat → Nat} {G M : Nat → Nat × Nat} {F : Int32} {L : va_W} (h : aw_Sh g ad G M F L) : ∃ f : Nat → Int32, L[77]? = some (aw_m ad 10, .inl (g 0, 4, .inl f)) := by
  obtain ⟨e, he, hs⟩ := h.2.2.1 10 (by decide)
  have hs : ∃ f : Nat → Int32, e = .inl (g 0, 4, .inl f) := hs
  obtain ⟨f, hs⟩ := hs
  exact ⟨f, by rw [hs] at he; exact he⟩
theorem wr_M10 {g : Nat → ClassId} {ad : Nat → Nat} {G M : Nat → Nat × Nat} {F : Int32} {L : va_W} (h : aw_Sh g ad G M F L) (f : Nat → Int32) : aw_Sh g ad G M F (L.set 77 (aw_m ad 10, .inl (g 0, 4, .inl f))) := aw_setM (i := 10) h (by decide) (show aw_shM g ad M F 10 (.inl (g 0, 4, .inl f)) from ⟨f, rfl⟩)
theorem rd_M11 {g : Nat → ClassId} {ad : Nat → Nat} {G M : Nat → Nat × Nat} {F : Int32} {L : va_W} (h : aw_Sh g ad G M F L) : ∃ f : Nat → Int32, L[78]? = some (aw_m ad 11, .inl (g 0, 4, .inl f)) := by
  obtain ⟨e, he, hs⟩ := h.2.2.1 11 (by decide)
  have hs : ∃ f : Nat → Int32, e = .inl (g 0, 4, .inl f) := hs
  obtain ⟨f, hs⟩ := hs
  exact ⟨f, by rw [hs] at he; exact he⟩
theorem wr_M11 {g : Nat → ClassId} {ad : Nat → Nat} {G M : Nat → Nat × Nat} {F : Int32} {L : va_W} (h : aw_Sh g ad G M F L) (f : Nat → Int32) : aw_Sh g ad G M F (L.set 78 (aw_m ad 11, .inl (g 0, 4, .inl f))) := aw_setM (i := 11) h (by decide) (show aw_shM g ad M F 11 (.inl (g 0, 4, .inl f)) from ⟨f, rfl⟩)
theorem rd_M12 {g : Nat → ClassId} {ad : Nat → Nat} {G M : Nat → Nat × Nat} {F : Int32} {L : va_W} (h : aw_Sh g ad G M F L) : ∃ f : Nat → Int64, L[79]? = some (aw_m ad 12, .inl (g 1, 4, .inr (.inl f))) := by
  obtain ⟨e, he, hs⟩ := h.2.2.1 12 (by decide)
  have hs : ∃ f : Nat → Int64, e = .inl (g 1, 4, .inr (.inl f)) := hs
  obtain ⟨f, hs⟩ := hs
  exact ⟨f, by rw [hs] at he; exact he⟩
theorem wr_M12 {g : Nat → ClassId} {ad : Nat → Nat} {G M : Nat → Nat × Nat} {F : Int32} {L : va_W} (h : aw_Sh g ad G M F L) (f : Nat → Int64) : aw_Sh g ad G M F (L.set 79 (aw_m ad 12, .inl (g 1, 4, .inr (.inl f)))) := aw_setM (i := 12) h (by decide) (show aw_shM g ad M F 12 (.inl (g 1, 4, .inr (.inl f))) from ⟨f, rfl⟩)
theorem rd_M13 {g : Nat → ClassId} {ad : Nat → Nat} {G M : Nat → Nat × Nat} {F : Int32} {L : va_W} (h : aw_Sh g ad G M F L) : ∃ f : Nat → Int64, L[80]? = some (aw_m ad 13, .inl (g 1, 4, .inr (.inl f))) := by
  obtain ⟨e, he, hs⟩ := h.2.2.1 13 (by decide)
  have hs : ∃ f : Nat → Int64, e = .inl (g 1, 4, .inr (.inl f)) := hs
  obtain ⟨f, hs⟩ := hs
  exact ⟨f, by rw [hs] at he; exact he⟩
theorem wr_M13 {g : Nat → ClassId} {ad : Nat → Nat} {G M : Nat → Nat × Nat} {F : Int32} {L : va_W} (h : aw_Sh g ad G M F L) (f : Nat → Int64) : aw_Sh g ad G M F (L.set 80 (aw_m ad 13, .inl (g 1, 4, .inr (.inl f)))) := aw_setM (i := 13) h (by decide) (show aw_shM g ad M F 13 (.inl (g 1, 4, .inr (.inl f))) from ⟨f, rfl⟩)
theorem rd_M14 {g : Nat → ClassId} {ad : Nat → Nat} {G M : Nat → Nat × Nat} {F : Int32} {L : va_W} (h : aw_Sh g ad G M F L) : ∃ f : Nat → Int32, L[81]? = some (aw_m ad 14, .inl (g 0, 4, .inl f)) := by
  obtain ⟨e, he, hs⟩ := h.2.2.1 14 (by decide)
  have hs : ∃ f : Nat → Int32, e = .inl (g 0, 4, .inl f) := hs
  obtain ⟨f, hs⟩ := hs
  exact ⟨f, by rw [hs] at he; exact he⟩
theorem wr_M14 {g : Nat → ClassId} {ad : Nat → Nat} {G M : Nat → Nat × Nat} {F : Int32} {L : va_W} (h : aw_Sh g ad G M F L) (f : Nat → Int32) : aw_Sh g ad G M F (L.set 81 (aw_m ad 14, .inl (g 0, 4, .inl f))) := aw_setM (i := 14) h (by decide) (show aw_shM g ad M F 14 (.inl (g 0, 4, .inl f)) from ⟨f, rfl⟩)
theorem rd_M15 {g : Nat → ClassId} {ad : Nat → Nat} {G M : Nat → Nat × Nat} {F : Int32} {L : va_W} (h : aw_Sh g ad G M F L) : ∃ f : Nat → Int32, L[82]? = some (aw_m ad 15, .inl (g 0, 52, .inl f)) := by
  obtain ⟨e, he, hs⟩ := h.2.2.1 15 (by decide)
  have hs : ∃ f : Nat → Int32, e = .inl (g 0, 52, .inl f) := hs
  obtain ⟨f, hs⟩ := hs
  exact ⟨f, by rw [hs] at he; exact he⟩
theorem wr_M15 {g : Nat → ClassId} {ad : Nat → Nat} {G M : Nat → Nat × Nat} {F : Int32} {L : va_W} (h : aw_Sh g ad G M F L) (f : Nat → Int32) : aw_Sh g ad G M F (L.set 82 (aw_m ad 15, .inl (g 0, 52, .inl f))) := aw_setM (i := 15) h (by decide) (show aw_shM g ad M F 15 (.inl (g 0, 52, .inl f)) from ⟨f, rfl⟩)
theorem rd_M16 {g : Nat → ClassId} {ad : Nat → Nat} {G M : Nat → Nat × Nat} {F : Int32} {L : va_W} (h : aw_Sh g ad G M F L) : ∃ f : Nat → Int32, L[83]? = some (aw_m ad 16, .inl (g 0, 32, .inl f)) := by
  obtain ⟨e, he, hs⟩ := h.2.2.1 16 (by decide)
  have hs : ∃ f : Nat → Int32, e = .inl (g 0, 32, .inl f) := hs
  obtain ⟨f, hs⟩ := hs
  exact ⟨f, by rw [hs] at he; exact he⟩
theorem wr_M16 {g : Nat → ClassId} {ad : Nat → Nat} {G M : Nat → Nat × Nat} {F : Int32} {L : va_W} (h : aw_Sh g ad G M F L) (f : Nat → Int32) : aw_Sh g ad G M F (L.set 83 (aw_m ad 16, .inl (g 0, 32, .inl f))) := aw_setM (i := 16) h (by decide) (show aw_shM g ad M F 16 (.inl (g 0, 32, .inl f)) from ⟨f, rfl⟩)
theorem rd_M2 {g : Nat → ClassId} {ad : Nat → Nat} {G M : Nat → Nat × Nat} {F : Int32} {L : va_W} (h : aw_Sh g ad G M F L) : ∃ f : Nat → Int32, (∀ k, k < 4 → f k = nI (M k).1) ∧ L[69]? = some (aw_m ad 2, .inl (g 0, 4, .inl f)) := by
  obtain ⟨e, he, hs⟩ := h.2.2.1 2 (by decide)
  have hs : ∃ f : Nat → Int32, (∀ k, k < 4 → f k = nI (M k).1) ∧ e = .inl (g 0, 4, .inl f) := hs
  obtain ⟨f, hc, hs⟩ := hs
  exact ⟨f, hc, by rw [hs] at he; exact he⟩
theorem wr_M2 {g : Nat → ClassId} {ad : Nat → Nat} {G M : Nat → Nat × Nat} {F : Int32} {L : va_W} (h : aw_Sh g ad G M F L) {j : Nat} (x : Nat) (hx : x ≤ 3) (f : Nat → Int32) (hf : ∀ k, k < 4 → f k = nI (M k).1) : aw_Sh g ad G (aw_g1 M j x) F (L.set 69 (aw_m ad 2, .inl (g 0, 4, .inl (upd f j (nI x))))) := aw_setMG h (i := 2) (by decide) (show aw_shM g ad (aw_g1 M j x) F 2 (.inl (g 0, 4, .inl (upd f j (nI x)))) from ⟨upd f j (nI x), fun k hk => by
  by_cases e9 : k = j
  · rw [e9, aw_g1s]; exact pk_us
  · rw [aw_g1n M x e9, pk_un e9]; exact hf k hk, rfl⟩) (fun q e hq hs => aw_s1 hq hs) (aw_g1k h.2.2.2.2.2 hx)
theorem rd_M3 {g : Nat → ClassId} {ad : Nat → Nat} {G M : Nat → Nat × Nat} {F : Int32} {L : va_W} (h : aw_Sh g ad G M F L) : ∃ f : Nat → Int32, L[70]? = some (aw_m ad 3, .inl (g 0, 4, .inl f)) := by
  obtain ⟨e, he, hs⟩ := h.2.2.1 3 (by decide)
  have hs : ∃ f : Nat → Int32, e = .inl (g 0, 4, .inl f) := hs
  obtain ⟨f, hs⟩ := hs
  exact ⟨f, by rw [hs] at he; exact he⟩
theorem wr_M3 {g : Nat → ClassId} {ad : Nat → Nat} {G M : Nat → Nat × Nat} {F : Int32} {L : va_W} (h : aw_Sh g ad G M F L) (f : Nat → Int32) : aw_Sh g ad G M F (L.set 70 (aw_m ad 3, .inl (g 0, 4, .inl f))) := aw_setM (i := 3) h (by decide) (show aw_shM g ad M F 3 (.inl (g 0, 4, .inl f)) from ⟨f, rfl⟩)
theorem rd_M4 {g : Nat → ClassId} {ad : Nat → Nat} {G M : Nat → Nat × Nat} {F : Int32} {L : va_W} (h : aw_Sh g ad G M F L) : ∃ f : Nat → Int64, L[71]? = some (aw_m ad 4, .inl (g 1, 4, .inr (.inl f))) := by
  obtain ⟨e, he, hs⟩ := h.2.2.1 4 (by decide)
  have hs : ∃ f : Nat → Int64, e = .inl (g 1, 4, .inr (.inl f)) := hs
  obtain ⟨f, hs⟩ := hs
  exact ⟨f, by rw [hs] at he; exact he⟩
theorem wr_M4 {g : Nat → ClassId} {ad : Nat → Nat} {G M : Nat → Nat × Nat} {F : Int32} {L : va_W} (h : aw_Sh g ad G M F L) (f : Nat → Int64) : aw_Sh g ad G M F (L.set 71 (aw_m ad 4, .inl (g 1, 4, .inr (.inl f)))) := aw_setM (i := 4) h (by decide) (show aw_shM g ad M F 4 (.inl (g 1, 4, .inr (.inl f))) from ⟨f, rfl⟩)
theorem rd_M5 {g : Nat → ClassId} {ad : Nat → Nat} {G M : Nat → Nat × Nat} {F : Int32} {L : va_W} (h : aw_Sh g ad G M F L) : ∃ f : Nat → Int64, L[72]? = some (aw_m ad 5, .inl (g 1, 4, .inr (.inl f))) := by
  obtain ⟨e, he, hs⟩ := h.2.2.1 5 (by decide)
  have hs : ∃ f : Nat → Int64, e = .inl (g 1, 4, .inr (.inl f)) := hs
  obtain ⟨f, hs⟩ := hs
  exact ⟨f, by rw [hs] at he; exact he⟩
theorem wr_M5 {g : Nat → ClassId} {ad : Nat → Nat} {G M : Nat → Nat × Nat} {F : Int32} {L : va_W} (h : aw_Sh g ad G M F L) (f : Nat → Int64) : aw_Sh g ad G M F (L.set 72 (aw_m ad 5, .inl (g 1, 4, .inr (.inl f)))) := aw_setM (i := 5) h (by decide) (show aw_shM g ad M F 5 (.inl (g 1, 4, .inr (.inl f))) from ⟨f, rfl⟩)
theorem rd_M6 {g : Nat → ClassId} {ad : Nat → Nat} {G M : Nat → Nat × Nat} {F : Int32} {L : va_W} (h : aw_Sh g ad G M F L) : ∃ f : Nat → Int32, (∀ k, k < 4 → f k = nI (M k).2) ∧ L[73]? = some (aw_m ad 6, .inl (g 0, 4, .inl f)) := by
  obtain ⟨e, he, hs⟩ := h.2.2.1 6 (by decide)
  have hs : ∃ f : Nat → Int32, (∀ k, k < 4 → f k = nI (M k).2) ∧ e = .inl (g 0, 4, .inl f) := hs
  obtain ⟨f, hc, hs⟩ := hs
  exact ⟨f, hc, by rw [hs] at he; exact he⟩
theorem wr_M6 {g : Nat → ClassId} {ad : Nat → Nat} {G M : Nat → Nat × Nat} {F : Int32} {L : va_W} (h : aw_Sh g ad G M F L) {j : Nat} (x : Nat) (hx : x ≤ 5) (f : Nat → Int32) (hf : ∀ k, k < 4 → f k = nI (M k).2) : aw_Sh g ad G (aw_g2 M j x) F (L.set 73 (aw_m ad 6, .inl (g 0, 4, .inl (upd f j (nI x))))) := aw_setMG h (i := 6) (by decide) (show aw_shM g ad (aw_g2 M j x) F 6 (.inl (g 0, 4, .inl (upd f j (nI x)))) from ⟨upd f j (nI x), fun k hk => by
  by_cases e9 : k = j
  · rw [e9, aw_g2s]; exact pk_us
  · rw [aw_g2n M x e9, pk_un e9]; exact hf k hk, rfl⟩) (fun q e hq hs => aw_s2 hq hs) (aw_g2k h.2.2.2.2.2 hx)
theorem rd_M7 {g : Nat → ClassId} {ad : Nat → Nat} {G M : Nat → Nat × Nat} {F : Int32} {L : va_W} (h : aw_Sh g ad G M F L) : ∃ f : Nat → Int64, L[74]? = some (aw_m ad 7, .inl (g 1, 4, .inr (.inl f))) := by
  obtain ⟨e, he, hs⟩ := h.2.2.1 7 (by decide)
  have hs : ∃ f : Nat → Int64, e = .inl (g 1, 4, .inr (.inl f)) := hs
  obtain ⟨f, hs⟩ := hs
  exact ⟨f, by rw [hs] at he; exact he⟩
theorem wr_M7 {g : Nat → ClassId} {ad : Nat → Nat} {G M : Nat → Nat × Nat} {F : Int32} {L : va_W} (h : aw_Sh g ad G M F L) (f : Nat → Int64) : aw_Sh g ad G M F (L.set 74 (aw_m ad 7, .inl (g 1, 4, .inr (.inl f)))) := aw_setM (i := 7) h (by decide) (show aw_shM g ad M F 7 (.inl (g 1, 4, .inr (.inl f))) from ⟨f, rfl⟩)
theorem rd_M8 {g : Nat → ClassId} {ad : Nat → Nat} {G M : Nat → Nat × Nat} {F : Int32} {L : va_W} (h : aw_Sh g ad G M F L) : ∃ f : Nat → Int64, L[75]? = some (aw_m ad 8, .inl (g 1, 4, .inr (.inl f))) := by
  obtain ⟨e, he, hs⟩ := h.2.2.1 8 (by decide)
  have hs : ∃ f : Nat → Int64, e = .inl (g 1, 4, .inr (.inl f)) := hs
  obtain ⟨f, hs⟩ := hs
  exact ⟨f, by rw [hs] at he; exact he⟩
theorem wr_M8 {g : Nat → ClassId} {ad : Nat → Nat} {G M : Nat → Nat × Nat} {F : Int32} {L : va_W} (h : aw_Sh g ad G M F L) (f : Nat → Int64) : aw_Sh g ad G M F (L.set 75 (aw_m ad 8, .inl (g 1, 4, .inr (.inl f)))) := aw_setM (i := 8) h (by decide) (show aw_shM g ad M F 8 (.inl (g 1, 4, .inr (.inl f))) from ⟨f, rfl⟩)
theorem rd_M9 {g : Nat → ClassId} {ad : Nat → Nat} {G M : Nat → Nat × Nat} {F : Int32} {L : va_W} (h : aw_Sh g ad G M F L) : ∃ f : Nat → Int32, L[76]? = some (aw_m ad 9, .inl (g 0, 4, .inl f)) := by
  obtain ⟨e, he, hs⟩ := h.2.2.1 9 (by decide)
  have hs : ∃ f : Nat → Int32, e = .inl (g 0, 4, .inl f) := hs
  obtain ⟨f, hs⟩ := hs
  exact ⟨f, by rw [hs] at he; exact he⟩
theorem wr_M9 {g : Nat → ClassId} {ad : Nat → Nat} {G M : Nat → Nat × Nat} {F : Int32} {L : va_W} (h : aw_Sh g ad G M F L) (f : Nat → Int32) : aw_Sh g ad G M F (L.set 76 (aw_m ad 9, .inl (g 0, 4, .inl f))) := aw_setM (i := 9) h (by decide) (show aw_shM g ad M F 9 (.inl (g 0, 4, .inl f)) from ⟨f, rfl⟩)
theorem rd_O0 {g : Nat → ClassId} {ad : Nat → Nat} {G M : Nat → Nat × Nat} {F : Int32} {L : va_W} (h : aw_Sh g ad G M F L) : ∃ f : Nat → Int64, L[84]? = some (aw_o ad, .inl (g 1, 1, .inr (.inl f))) := h.2.2.2.1
theorem wr_O0 {g : Nat → ClassId} {ad : Nat → Nat} {G M : Nat → Nat × Nat} {F : Int32} {L : va_W} (h : aw_Sh g ad G M F L) (f : Nat → Int64) : aw_Sh g ad G M F (L.set 84 (aw_o ad, .inl (g 1, 1, .inr (.inl f)))) := aw_setO h f
theorem rd_R0 {g : Nat → ClassId} {ad : Nat → Nat} {G M : Nat → Nat × Nat} {F : Int32} {L : va_W} (h : aw_Sh g ad G M F L) : L[0]? = some (aw_r ad 0, .inr (0, [.ref (aw_r ad 1), .ref (aw_r ad 2)])) := by
  obtain ⟨e, he, hs⟩ := h.2.1 0 (by decide)
  have hs : e = .inr (0, [.ref (aw_r ad 1), .ref (aw_r ad 2)]) := hs
  rw [hs] at he; exact he
theorem rd_R1 {g : Nat → ClassId} {ad : Nat → Nat} {G M : Nat → Nat × Nat} {F : Int32} {L : va_W} (h : aw_Sh g ad G M F L) : ∃ f : Nat → Option Nat, (∀ k, k < 4 → f k = some (aw_c ad k 0)) ∧ L[1]? = some (aw_r ad 1, .inl (g 3, 4, .inr (.inr (.inr (.inr f))))) := by
  obtain ⟨e, he, hs⟩ := h.2.1 1 (by decide)
  have hs : ∃ f : Nat → Option Nat, (∀ k, k < 4 → f k = some (aw_c ad k 0)) ∧ e = .inl (g 3, 4, .inr (.inr (.inr (.inr f)))) := hs
  obtain ⟨f, hc, hs⟩ := hs
  exact ⟨f, hc, by rw [hs] at he; exact he⟩
theorem rd_R2 {g : Nat → ClassId} {ad : Nat → Nat} {G M : Nat → Nat × Nat} {F : Int32} {L : va_W} (h : aw_Sh g ad G M F L) : ∃ f : Nat → Int32, L[2]? = some (aw_r ad 2, .inl (g 0, 64, .inl f)) := by
  obtain ⟨e, he, hs⟩ := h.2.1 2 (by decide)
  have hs : ∃ f : Nat → Int32, e = .inl (g 0, 64, .inl f) := hs
  obtain ⟨f, hs⟩ := hs
  exact ⟨f, by rw [hs] at he; exact he⟩
theorem wr_R2 {g : Nat → ClassId} {ad : Nat → Nat} {G M : Nat → Nat × Nat} {F : Int32} {L : va_W} (h : aw_Sh g ad G M F L) (f : Nat → Int32) : aw_Sh g ad G M F (L.set 2 (aw_r ad 2, .inl (g 0, 64, .inl f))) := aw_setR (i := 2) h (by decide) (show aw_shR g ad 2 (.inl (g 0, 64, .inl f)) from ⟨f, rfl⟩)
