/-! A byte fed, a block fed, a byte taken: the class's context and the reference's. -/
theorem az_u2_s {α : Type} {f : Nat → Nat → α} {j k : Nat} {v : α} : az_u2 f j k v j k = v := if_pos ⟨rfl, rfl⟩
theorem az_u2_k {α : Type} {f : Nat → Nat → α} {j k a b : Nat} {v : α} (h : b ≠ k) : az_u2 f j k v a b = f a b := if_neg (fun z => h z.2)
theorem az_u2_j {α : Type} {f : Nat → Nat → α} {j k a : Nat} {v : α} (h : a ≠ j) : az_u2 f j k v a = f a := by
  funext b
  exact if_neg (fun z => h z.1)
/-- what a context holds, the class's and the reference's; m: its mode -/
def az_C (m : Nat) (X : Nat → Nat → Int64) (Y : Nat → Nat → Int32) (A : Nat → Nat → Nat → Int32) (o : Nat) (I : Nat → Nat → Int32) (L : Nat → Nat → Int64) (j : Nat) : Prop :=
  X j 0 = L 7 j ∧ X j 1 = L 8 j ∧ Y j 0 = I 9 j ∧ (m = 4 → ¬ Y j 0 = 0 → X j 2 = v_Ci_onV A j o (X j 1)) ∧ X j 3 = L 12 j ∧ X j 4 = L 13 j ∧ Y j 3 = I 14 j ∧ (∃ n, n ≤ 8 ∧ Y j 3 = nI n)
/-- what a step on context j leaves alone -/
def az_F (j : Nat) (X X' : Nat → Nat → Int64) (Y Y' : Nat → Nat → Int32) (I I' : Nat → Nat → Int32) (L L' : Nat → Nat → Int64) : Prop :=
  (∀ q, q ≠ j → X' q = X q) ∧ (∀ q, q ≠ j → Y' q = Y q) ∧ (∀ q, q ≠ j → I' 9 q = I 9 q ∧ I' 14 q = I 14 q ∧ L' 7 q = L 7 q ∧ L' 8 q = L 8 q ∧ L' 12 q = L 12 q ∧ L' 13 q = L 13 q) ∧ I' 3 = I 3 ∧ L' 4 = L 4 ∧ L' 5 = L 5
theorem az_F.rf {j : Nat} {X : Nat → Nat → Int64} {Y : Nat → Nat → Int32} {I : Nat → Nat → Int32} {L : Nat → Nat → Int64} : az_F j X X Y Y I I L L := ⟨fun _ _ => rfl, fun _ _ => rfl, fun _ _ => ⟨rfl, rfl, rfl, rfl, rfl, rfl⟩, rfl, rfl, rfl⟩
theorem az_F.tr {j : Nat} {X X' X'' : Nat → Nat → Int64} {Y Y' Y'' : Nat → Nat → Int32} {I I' I'' : Nat → Nat → Int32} {L L' L'' : Nat → Nat → Int64} (h : az_F j X X' Y Y' I I' L L') (k : az_F j X' X'' Y' Y'' I' I'' L' L'') : az_F j X X'' Y Y'' I I'' L L'' := by
  obtain ⟨h1, h2, h3, h4, h5, h6⟩ := h
  obtain ⟨k1, k2, k3, k4, k5, k6⟩ := k
  refine ⟨fun q hq => (k1 q hq).trans (h1 q hq), fun q hq => (k2 q hq).trans (h2 q hq), fun q hq => ?_, k4.trans h4, k5.trans h5, k6.trans h6⟩
  obtain ⟨a1, a2, a3, a4, a5, a6⟩ := h3 q hq
  obtain ⟨b1, b2, b3, b4, b5, b6⟩ := k3 q hq
  exact ⟨b1.trans a1, b2.trans a2, b3.trans a3, b4.trans a4, b5.trans a5, b6.trans a6⟩
theorem q_bu {B : Nat → Int32} {I : Nat → Nat → Int32} {k : Nat} {x y : Int32} (h : ∀ p, p < 64 → B p = I 1 p) (hxy : x = y) : ∀ p, p < 64 → upd B k x p = az_v I 1 k y 1 p := by
  intro p hp
  by_cases hc : p = k
  · rw [hc, pk_us, az_v_s, hxy]
  · rw [pk_un hc, az_v_k hc]
    exact h p hp
/-- the first byte needs no mask -/
theorem q_b0 (x : Int64) : v_Ru_byteOfV x (nI 0) = Int64.toInt32 (jL_ushr x (nI 56)) := by
  unfold v_Ru_byteOfV
  rw [show nI 56 - nI 8 * nI 0 = nI 56 by decide +kernel]
  apply Int32.toBitVec_inj.mp
  rw [Int32.toBitVec_and, Int64.toBitVec_toInt32, q_shr x 56 (by decide)]
  apply BitVec.eq_of_getLsbD_eq
  intro i hi
  show (BitVec.signExtend 32 (x.toBitVec >>> 56) &&& 255#32).getLsbD i = (BitVec.signExtend 32 (x.toBitVec >>> 56)).getLsbD i
  rw [BitVec.getLsbD_and, BitVec.getLsbD_signExtend, BitVec.getLsbD_ushiftRight]
  by_cases h : i < 8
  · rw [show (255#32).getLsbD i = true from by
      rcases (by omega : i = 0 ∨ i = 1 ∨ i = 2 ∨ i = 3 ∨ i = 4 ∨ i = 5 ∨ i = 6 ∨ i = 7) with rfl | rfl | rfl | rfl | rfl | rfl | rfl | rfl <;> decide]
    exact Bool.and_true _
  · rw [show x.toBitVec.getLsbD (56 + i) = false from BitVec.getLsbD_of_ge _ _ (by omega)]
    simp [show i < 64 by omega]
