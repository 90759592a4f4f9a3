def aw_AD (q0 q1 q2 : Nat) (c0 c1 c2 c3 q : Nat → Nat) (qo : Nat) : Nat → Nat := fun k => if k < 3 then [q0, q1, q2].getD k 0 else if k < 67 then ([c0, c1, c2, c3].getD ((k - 3) / 16) c3) ((k - 3) % 16) else if k < 84 then q (k - 67) else qo
theorem aw_g00 : aw_gok (fun _ => (0, 0)) := fun _ _ => ⟨Nat.zero_le _, Nat.zero_le _⟩
theorem az_i0 {g : Nat → ClassId} {q0 q1 q2 : Nat} {c0 c1 c2 c3 : Nat → Nat} {f0 f1 f2 f3 : Nat → Option Nat} {q : Nat → Nat} {qo : Nat} (hf : (f0 0 = some (c0 2) ∧ f0 1 = some (c0 5) ∧ f0 2 = some (c0 7) ∧ f0 3 = some (c0 10) ∧ f0 4 = some (c0 12))) (i : Nat) (hi : i < 16) : ∃ e, (((([] ++ aw_rw g q0 q1 q2 c0 c1 c2 c3 f0 f1 f2 f3) ++ aw_mo g q) ++ ([] ++ [(qo, .inl (g 1, 1, .inr (.inl (fun _ => 0))))])) : va_W)[3 + 16 * 0 + i]? = some (aw_c (aw_AD q0 q1 q2 c0 c1 c2 c3 q qo) 0 i, e) ∧ az_shC g (aw_AD q0 q1 q2 c0 c1 c2 c3 q qo) (fun _ => (0, 0)) (fun _ => 2) (fun _ _ => 0) (fun _ _ => 0) (fun _ _ _ => 0) 0 i e := by
  rcases (by omega : i = 0 ∨ i = 1 ∨ i = 2 ∨ i = 3 ∨ i = 4 ∨ i = 5 ∨ i = 6 ∨ i = 7 ∨ i = 8 ∨ i = 9 ∨ i = 10 ∨ i = 11 ∨ i = 12 ∨ i = 13 ∨ i = 14 ∨ i = 15) with rfl | rfl | rfl | rfl | rfl | rfl | rfl | rfl | rfl | rfl | rfl | rfl | rfl | rfl | rfl | rfl
  · exact ⟨_, rfl, Or.inl rfl, rfl⟩
  · exact ⟨_, rfl, f0, hf, rfl⟩
  · exact ⟨_, rfl, rfl⟩
  · exact ⟨_, rfl, rfl⟩
  · exact ⟨_, rfl, rfl⟩
  · exact ⟨_, rfl, rfl⟩
  · exact ⟨_, rfl, rfl⟩
  · exact ⟨_, rfl, rfl⟩
  · exact ⟨_, rfl, rfl⟩
  · exact ⟨_, rfl, rfl⟩
  · exact ⟨_, rfl, rfl⟩
  · exact ⟨_, rfl, rfl⟩
  · exact ⟨_, rfl, rfl⟩
  · exact ⟨_, rfl, rfl⟩
  · exact ⟨_, rfl, rfl⟩
  · exact ⟨_, rfl, rfl⟩
theorem az_i1 {g : Nat → ClassId} {q0 q1 q2 : Nat} {c0 c1 c2 c3 : Nat → Nat} {f0 f1 f2 f3 : Nat → Option Nat} {q : Nat → Nat} {qo : Nat} (hf : (f1 0 = some (c1 2) ∧ f1 1 = some (c1 5) ∧ f1 2 = some (c1 7) ∧ f1 3 = some (c1 10) ∧ f1 4 = some (c1 12))) (i : Nat) (hi : i < 16) : ∃ e, (((([] ++ aw_rw g q0 q1 q2 c0 c1 c2 c3 f0 f1 f2 f3) ++ aw_mo g q) ++ ([] ++ [(qo, .inl (g 1, 1, .inr (.inl (fun _ => 0))))])) : va_W)[3 + 16 * 1 + i]? = some (aw_c (aw_AD q0 q1 q2 c0 c1 c2 c3 q qo) 1 i, e) ∧ az_shC g (aw_AD q0 q1 q2 c0 c1 c2 c3 q qo) (fun _ => (0, 0)) (fun _ => 2) (fun _ _ => 0) (fun _ _ => 0) (fun _ _ _ => 0) 1 i e := by
  rcases (by omega : i = 0 ∨ i = 1 ∨ i = 2 ∨ i = 3 ∨ i = 4 ∨ i = 5 ∨ i = 6 ∨ i = 7 ∨ i = 8 ∨ i = 9 ∨ i = 10 ∨ i = 11 ∨ i = 12 ∨ i = 13 ∨ i = 14 ∨ i = 15) with rfl | rfl | rfl | rfl | rfl | rfl | rfl | rfl | rfl | rfl | rfl | rfl | rfl | rfl | rfl | rfl
  · exact ⟨_, rfl, Or.inl rfl, rfl⟩
  · exact ⟨_, rfl, f1, hf, rfl⟩
  · exact ⟨_, rfl, rfl⟩
  · exact ⟨_, rfl, rfl⟩
  · exact ⟨_, rfl, rfl⟩
  · exact ⟨_, rfl, rfl⟩
  · exact ⟨_, rfl, rfl⟩
  · exact ⟨_, rfl, rfl⟩
  · exact ⟨_, rfl, rfl⟩
  · exact ⟨_, rfl, rfl⟩
  · exact ⟨_, rfl, rfl⟩
  · exact ⟨_, rfl, rfl⟩
  · exact ⟨_, rfl, rfl⟩
  · exact ⟨_, rfl, rfl⟩
  · exact ⟨_, rfl, rfl⟩
  · exact ⟨_, rfl, rfl⟩
theorem az_i2 {g : Nat → ClassId} {q0 q1 q2 : Nat} {c0 c1 c2 c3 : Nat → Nat} {f0 f1 f2 f3 : Nat → Option Nat} {q : Nat → Nat} {qo : Nat} (hf : (f2 0 = some (c2 2) ∧ f2 1 = some (c2 5) ∧ f2 2 = some (c2 7) ∧ f2 3 = some (c2 10) ∧ f2 4 = some (c2 12))) (i : Nat) (hi : i < 16) : ∃ e, (((([] ++ aw_rw g q0 q1 q2 c0 c1 c2 c3 f0 f1 f2 f3) ++ aw_mo g q) ++ ([] ++ [(qo, .inl (g 1, 1, .inr (.inl (fun _ => 0))))])) : va_W)[3 + 16 * 2 + i]? = some (aw_c (aw_AD q0 q1 q2 c0 c1 c2 c3 q qo) 2 i, e) ∧ az_shC g (aw_AD q0 q1 q2 c0 c1 c2 c3 q qo) (fun _ => (0, 0)) (fun _ => 2) (fun _ _ => 0) (fun _ _ => 0) (fun _ _ _ => 0) 2 i e := by
  rcases (by omega : i = 0 ∨ i = 1 ∨ i = 2 ∨ i = 3 ∨ i = 4 ∨ i = 5 ∨ i = 6 ∨ i = 7 ∨ i = 8 ∨ i = 9 ∨ i = 10 ∨ i = 11 ∨ i = 12 ∨ i = 13 ∨ i = 14 ∨ i = 15) with rfl | rfl | rfl | rfl | rfl | rfl | rfl | rfl | rfl | rfl | rfl | rfl | rfl | rfl | rfl | rfl
  · exact ⟨_, rfl, Or.inl rfl, rfl⟩
  · exact ⟨_, rfl, f2, hf, rfl⟩
  · exact ⟨_, rfl, rfl⟩
  · exact ⟨_, rfl, rfl⟩
  · exact ⟨_, rfl, rfl⟩
  · exact ⟨_, rfl, rfl⟩
  · exact ⟨_, rfl, rfl⟩
  · exact ⟨_, rfl, rfl⟩
  · exact ⟨_, rfl, rfl⟩
  · exact ⟨_, rfl, rfl⟩
  · exact ⟨_, rfl, rfl⟩
  · exact ⟨_, rfl, rfl⟩
  · exact ⟨_, rfl, rfl⟩
  · exact ⟨_, rfl, rfl⟩
  · exact ⟨_, rfl, rfl⟩
  · exact ⟨_, rfl, rfl⟩
theorem az_i3 {g : Nat → ClassId} {q0 q1 q2 : Nat} {c0 c1 c2 c3 : Nat → Nat} {f0 f1 f2 f3 : Nat → Option Nat} {q : Nat → Nat} {qo : Nat} (hf : (f3 0 = some (c3 2) ∧ f3 1 = some (c3 5) ∧ f3 2 = some (c3 7) ∧ f3 3 = some (c3 10) ∧ f3 4 = some (c3 12))) (i : Nat) (hi : i < 16) : ∃ e, (((([] ++ aw_rw g q0 q1 q2 c0 c1 c2 c3 f0 f1 f2 f3) ++ aw_mo g q) ++ ([] ++ [(qo, .inl (g 1, 1, .inr (.inl (fun _ => 0))))])) : va_W)[3 + 16 * 3 + i]? = some (aw_c (aw_AD q0 q1 q2 c0 c1 c2 c3 q qo) 3 i, e) ∧ az_shC g (aw_AD q0 q1 q2 c0 c1 c2 c3 q qo) (fun _ => (0, 0)) (fun _ => 2) (fun _ _ => 0) (fun _ _ => 0) (fun _ _ _ => 0) 3 i e := by
  rcases (by omega : i = 0 ∨ i = 1 ∨ i = 2 ∨ i = 3 ∨ i = 4 ∨ i = 5 ∨ i = 6 ∨ i = 7 ∨ i = 8 ∨ i = 9 ∨ i = 10 ∨ i = 11 ∨ i = 12 ∨ i = 13 ∨ i = 14 ∨ i = 15) with rfl | rfl | rfl | rfl | rfl | rfl | rfl | rfl | rfl | rfl | rfl | rfl | rfl | rfl | rfl | rfl
  · exact ⟨_, rfl, Or.inl rfl, rfl⟩
  · exact ⟨_, rfl, f3, hf, rfl⟩
  · exact ⟨_, rfl, rfl⟩
  · exact ⟨_, rfl, rfl⟩
  · exact ⟨_, rfl, rfl⟩
  · exact ⟨_, rfl, rfl⟩
  · exact ⟨_, rfl, rfl⟩
  · exact ⟨_, rfl, rfl⟩
  · exact ⟨_, rfl, rfl⟩
  · exact ⟨_, rfl, rfl⟩
  · exact ⟨_, rfl, rfl⟩
  · exact ⟨_, rfl, rfl⟩
  · exact ⟨_, rfl, rfl⟩
  · exact ⟨_, rfl, rfl⟩
  · exact ⟨_, rfl, rfl⟩
  · exact ⟨_, rfl, rfl⟩
theorem az_iM {g : Nat → ClassId} {q0 q1 q2 : Nat} {c0 c1 c2 c3 : Nat → Nat} {f0 f1 f2 f3 : Nat → Option Nat} {q : Nat → Nat} {qo : Nat} (i : Nat) (hi : i < 17) : ∃ e, (((([] ++ aw_rw g q0 q1 q2 c0 c1 c2 c3 f0 f1 f2 f3) ++ aw_mo g q) ++ ([] ++ [(qo, .inl (g 1, 1, .inr (.inl (fun _ => 0))))])) : va_W)[67 + i]? = some (aw_m (aw_AD q0 q1 q2 c0 c1 c2 c3 q qo) i, e) ∧ az_shM g (aw_AD q0 q1 q2 c0 c1 c2 c3 q qo) (fun _ => (0, 0)) (fun _ _ => 0) (fun _ _ => 0) 0 0 0 i e := by
  rcases (by omega : i = 0 ∨ i = 1 ∨ i = 2 ∨ i = 3 ∨ i = 4 ∨ i = 5 ∨ i = 6 ∨ i = 7 ∨ i = 8 ∨ i = 9 ∨ i = 10 ∨ i = 11 ∨ i = 12 ∨ i = 13 ∨ i = 14 ∨ i = 15 ∨ i = 16) with rfl | rfl | rfl | rfl | rfl | rfl | rfl | rfl | rfl | rfl | rfl | rfl | rfl | rfl | rfl | rfl | rfl
  · exact ⟨_, rfl, Nat.zero_le _, rfl⟩
  · exact ⟨_, rfl, rfl⟩
  · exact ⟨_, rfl, fun _ _ => rfl, rfl⟩
  · exact ⟨_, rfl, rfl⟩
  · exact ⟨_, rfl, rfl⟩
  · exact ⟨_, rfl, rfl⟩
  · exact ⟨_, rfl, fun _ _ => rfl, rfl⟩
  · exact ⟨_, rfl, rfl⟩
  · exact ⟨_, rfl, rfl⟩
  · exact ⟨_, rfl, rfl⟩
  · exact ⟨_, rfl, rfl⟩
  · exact ⟨_, rfl, rfl⟩
  · exact ⟨_, rfl, rfl⟩
  · exact ⟨_, rfl, rfl⟩
  · exact ⟨_, rfl, rfl⟩
  · exact ⟨_, rfl, rfl⟩
  · exact ⟨_, rfl, rfl⟩
theorem az_iR {g : Nat → ClassId} {q0 q1 q2 : Nat} {c0 c1 c2 c3 : Nat → Nat} {f0 f1 f2 f3 : Nat → Option Nat} {q : Nat → Nat} {qo : Nat} (i : Nat) (hi : i < 3) : ∃ e, (((([] ++ aw_rw g q0 q1 q2 c0 c1 c2 c3 f0 f1 f2 f3) ++ aw_mo g q) ++ ([] ++ [(qo, .inl (g 1, 1, .inr (.inl (fun _ => 0))))])) : va_W)[i]? = some (aw_r (aw_AD q0 q1 q2 c0 c1 c2 c3 q qo) i, e) ∧ az_shR g (aw_AD q0 q1 q2 c0 c1 c2 c3 q qo) (fun _ => 0) i e := by
  rcases (by omega : i = 0 ∨ i = 1 ∨ i = 2) with rfl | rfl | rfl
  · exact ⟨_, rfl, rfl⟩
  · refine ⟨_, rfl, _, fun k hk => ?_, rfl⟩
    rcases (by omega : k = 0 ∨ k = 1 ∨ k = 2 ∨ k = 3) with rfl | rfl | rfl | rfl <;> rfl
  · exact ⟨_, rfl, rfl⟩
theorem az_init {g : Nat → ClassId} {q0 q1 q2 : Nat} {c0 c1 c2 c3 : Nat → Nat} {f0 f1 f2 f3 : Nat → Option Nat} {q : Nat → Nat} {qo : Nat} (hf0 : (f0 0 = some (c0 2) ∧ f0 1 = some (c0 5) ∧ f0 2 = some (c0 7) ∧ f0 3 = some (c0 10) ∧ f0 4 = some (c0 12))) (hf1 : (f1 0 = some (c1 2) ∧ f1 1 = some (c1 5) ∧ f1 2 = some (c1 7) ∧ f1 3 = some (c1 10) ∧ f1 4 = some (c1 12))) (hf2 : (f2 0 = some (c2 2) ∧ f2 1 = some (c2 5) ∧ f2 2 = some (c2 7) ∧ f2 3 = some (c2 10) ∧ f2 4 = some (c2 12))) (hf3 : (f3 0 = some (c3 2) ∧ f3 1 = some (c3 5) ∧ f3 2 = some (c3 7) ∧ f3 3 = some (c3 10) ∧ f3 4 = some (c3 12))) : az_Sh g (aw_AD q0 q1 q2 c0 c1 c2 c3 q qo) (fun _ => (0, 0)) (fun _ => 2) (fun _ _ => 0) (fun _ _ => 0) (fun _ _ _ => 0) (fun _ => 0) (fun _ => (0, 0)) (fun _ _ => 0) (fun _ _ => 0) 0 0 0 0 ((([] ++ aw_rw g q0 q1 q2 c0 c1 c2 c3 f0 f1 f2 f3) ++ aw_mo g q) ++ ([] ++ [(qo, .inl (g 1, 1, .inr (.inl (fun _ => 0))))])) := by
  refine ⟨fun j i hj hi => ?_, fun i hi => az_iR i hi, fun i hi => az_iM i hi, ⟨_, rfl, rfl⟩, aw_g00, aw_g00⟩
  rcases (by omega : j = 0 ∨ j = 1 ∨ j = 2 ∨ j = 3) with rfl | rfl | rfl | rfl
  · exact az_i0 hf0 i hi
  · exact az_i1 hf1 i hi
  · exact az_i2 hf2 i hi
  · exact az_i3 hf3 i hi
theorem az_R0 : az_R (fun _ => (0, 0)) (fun _ => 2) (fun _ _ => 0) (fun _ _ => 0) (fun _ _ _ => 0) (fun _ => 0) (fun _ => (0, 0)) (fun _ _ => 0) (fun _ _ => 0) := ⟨fun _ _ => rfl, fun _ _ h => absurd (show 1 ≤ 0 from h) (by decide), fun _ _ _ h => absurd (show 2 ≤ 0 from h) (by decide)⟩
