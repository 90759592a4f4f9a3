/-! What the law's values are: a context's number, a place, a part of the buffer; the joined contracts' cases. -/
theorem aw_rng (n : Nat) (hn : n < 2 ^ 31) (c0 : Int32) : (c0 < 0 ∨ (¬ c0 < 0 ∧ ¬ c0 < nI n)) ∨ ∃ j : Nat, j < n ∧ c0 = nI j := by
  by_cases h : c0 < 0
  · exact Or.inl (Or.inl h)
  · by_cases h2 : c0 < nI n
    · exact Or.inr (aw_place h h2 hn)
    · exact Or.inl (Or.inr ⟨h, h2⟩)
theorem aw_ovr (n : Nat) (hn : n < 2 ^ 30) (c0 : Int32) : (c0 < 0 ∨ (¬ c0 < 0 ∧ nI n < c0)) ∨ ∃ j : Nat, j ≤ n ∧ c0 = nI j := by
  by_cases h : c0 < 0
  · exact Or.inl (Or.inl h)
  · obtain ⟨j, hj, rfl⟩ := nI_of h
    by_cases h2 : n < j
    · exact Or.inl (Or.inr ⟨h, (nI_ltI (by omega) hj).mpr h2⟩)
    · exact Or.inr ⟨j, by omega, rfl⟩
/-- the class's look and the reference's look at the same bound -/
theorem aw_bnd (n : Nat) (hn : n < 2 ^ 30) {c0 : Int32} (h : c0 < 0 ∨ (¬ c0 < 0 ∧ ¬ c0 < nI (n + 1))) : c0 < 0 ∨ (¬ c0 < 0 ∧ nI n < c0) := by
  rcases h with h | ⟨h, h2⟩
  · exact Or.inl h
  · obtain ⟨j, hj, rfl⟩ := nI_of h
    refine Or.inr ⟨h, (nI_ltI (by omega) hj).mpr ?_⟩
    have h3 : ¬ j < n + 1 := fun z => h2 ((nI_ltI hj (by omega)).mpr z)
    omega
theorem aw_s64 {j : Nat} (hj : j < 2 ^ 31) : (nI 64 - nI j).toInt = 64 - (j : Int) := by
  rw [Int32.toInt_sub, nI_toInt hj, nI_toInt (by decide)]
  rw [Int.bmod_eq_of_le] <;> omega
theorem aw_buf (fr m0 : Int32) : (m0 < 0 ∨ (0 < m0 ∧ fr < 0) ∨ (0 < m0 ∧ ¬ fr < 0 ∧ nI 64 - fr < m0)) ∨ m0 = nI 0 ∨ ∃ k mm : Nat, fr = nI k ∧ m0 = nI mm ∧ 0 < mm ∧ k + mm ≤ 64 := by
  by_cases h1 : m0 < 0
  · exact Or.inl (Or.inl h1)
  · obtain ⟨mm, hmm, rfl⟩ := nI_of h1
    by_cases h2 : mm = 0
    · exact Or.inr (Or.inl (by rw [h2]))
    · have h0 : 0 < nI mm := show nI 0 < nI mm from (nI_ltI (by decide) hmm).mpr (by omega)
      by_cases h3 : fr < 0
      · exact Or.inl (Or.inr (Or.inl ⟨h0, h3⟩))
      · by_cases h4 : nI 64 - fr < nI mm
        · exact Or.inl (Or.inr (Or.inr ⟨h0, h3, h4⟩))
        · obtain ⟨k, hk, rfl⟩ := nI_of h3
          refine Or.inr (Or.inr ⟨k, mm, rfl, rfl, by omega, ?_⟩)
          rw [Int32.lt_iff_toInt_lt, aw_s64 hk, nI_toInt hmm] at h4
          omega
theorem aw_part (fr m0 : Int32) : (fr < 0 ∨ (¬ fr < 0 ∧ m0 < 0) ∨ (¬ fr < 0 ∧ ¬ m0 < 0 ∧ nI 64 < fr) ∨ (¬ fr < 0 ∧ ¬ m0 < 0 ∧ ¬ nI 64 < fr ∧ nI 64 - fr < m0)) ∨ ∃ k mm : Nat, fr = nI k ∧ m0 = nI mm ∧ k + mm ≤ 64 := by
  by_cases h1 : fr < 0
  · exact Or.inl (Or.inl h1)
  · by_cases h2 : m0 < 0
    · exact Or.inl (Or.inr (Or.inl ⟨h1, h2⟩))
    · by_cases h3 : nI 64 < fr
      · exact Or.inl (Or.inr (Or.inr (Or.inl ⟨h1, h2, h3⟩)))
      · by_cases h4 : nI 64 - fr < m0
        · exact Or.inl (Or.inr (Or.inr (Or.inr ⟨h1, h2, h3, h4⟩)))
        · obtain ⟨k, hk, rfl⟩ := nI_of h1
          obtain ⟨mm, hmm, rfl⟩ := nI_of h2
          refine Or.inr ⟨k, mm, rfl, rfl, ?_⟩
          rw [Int32.lt_iff_toInt_lt, aw_s64 hk, nI_toInt hmm] at h4
          omega
theorem aw_wW {s : State} {args : Array Value} {R : Room} {own : String} {index maxL : Nat} {y : MethodName} {bytes : ByteArray} {ret : Option FieldType} {hh : List (Nat × Nat × Nat × Nat)} {rm : Room} (n : Nat) {mc ms : Nat} (hG : ∀ w ∈ aw_G, w.before args s = true) (hcode : Cond.codeWith y bytes maxL ret hh ∈ aw_G) (hlink : Cond.methodLink own index y ∈ aw_G) (hini : Cond.initialized y.cls ∈ aw_G) (hst : Cond.static y ∈ aw_G) (hrc : rm.cells = mc) (hrs : rm.slots = ms)
    (hd : y.cls ≠ "java/lang/invoke/MethodHandle" ∧ y.cls ≠ "java/lang/invoke/VarHandle" ∧ (parseMethodDescriptor y.desc).map (fun d => d.parameters.length) = some n) (hR : rm.frames + 1 ≤ R.frames ∧ 8 + (maxL + 11) + rm.locals ≤ R.locals) :
    vx_CSW R s args own index y bytes maxL ret hh (Cond.codeWith y bytes maxL ret hh :: aw_G) rm mc ms n :=
  ⟨⟨hrc, hrs, hR.1, hR.2, pay_in hG (aw_gi hcode), List.mem_cons_self⟩, hG _ hcode, hG _ hini, ⟨hd.1, hd.2.1⟩, fun sig h => by
    have h2 := hd.2.2
    rw [h] at h2
    exact (Option.some.inj h2).symm, hG _ hlink, hG _ hst⟩
