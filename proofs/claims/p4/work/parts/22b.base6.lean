/-! The throw over any shape of the one world's list; a cipher by its number. -/
theorem ag_thr {p : Program} {l : Launch} {e : Env} {R : Room} {s : State} {m : MethodId} {args : Array Value} {below : List Frame} {meth : Method} {c : Code} {H : Heap} {locs : List Loc} {cells slots : Nat} {ls : Array Slot} {rest : List Value} {D : va_G} {g : Nat → ClassId} {Sh : va_W → Prop} {N0 : Nat} {L : va_W} {Qc : Array Value → State → Outcome → State → Prop}
    {cc : ByteArray} {pc : Nat} (hexec : p.tables.exec = Jvm.exec) (hb : c.code = cc) (hl : l.stackTraces = false) {own cls text : String} {names : List String} {ik is ic mc ms sa : Nat}
    (hown : s.vm.findClass own = some m.cls) (hcls : Bundle.fit cls = true) (hnames : ∀ n ∈ names, Bundle.fit n = true)
    (hk : (Cond.classLink own ik cls).before args s = true) (hini : (Cond.initialized cls).before args s = true) (hstr : vk_R own is text sa s) (hat : ∀ w ∈ vx_atS own ic cls names, w.before args s = true)
    (hgood : ∀ w ∈ Cond.classLink own ik cls :: Cond.initialized cls :: vx_atS own ic cls names, vx_ot w = true)
    (hU : aw_U D g N0 s) (hP : va_P D aw_C L H) (hD : va_D (aw_Z N0) L) (hSh : Sh L) (hS : va_S (aw_Z N0) s.heap H locs) (hsize : ls.size = c.maxLocals)
    (d0 : decode cc pc = .ok (.new ik, 3)) (d3 : decode cc (pc + 3) = .ok (.dup, 1)) (d4 : decode cc (pc + 4) = .ok (.ldc is, 2)) (d6 : decode cc (pc + 6) = .ok (.invokespecial ic, 3)) (d9 : decode cc (pc + 9) = .ok (.athrow, 1))
    (hout : ∀ x ∈ c.exceptionTable.toList, covers x (pc + 9) = false)
    (hRframes : names.length + 3 < R.frames) (hRlocals : (rest.map fun v => v.category).sum + (13 * (names.length + 1) + 43) ≤ R.locals) (hRcells : cells + 1 ≤ R.cells) (hRslots : slots + 6 ≤ R.slots) (hlocks : meth.locks = false)
    (hc : cells + 1 ≤ mc) (hs : slots + 6 ≤ ms) :
    W p l e R s m args below meth c H locs cells slots (vx_MQ below Qc (vx_X (fun (_ : Unit) => True) (fun E (_ : Unit) t => E = cls ∧ ag_H D N0 Sh t.heap) (aw_Z N0)) args s mc ms (aw_Z N0)) (F0 m pc ls rest) :=
  vx_throwS hexec hb hl hown hcls hnames hk hini hstr hat hgood hU.2.1.1 hU.2.1.2.1 hS hsize d0 d3 d4 d6 d9 hout hRframes hRlocals hRcells hRslots hlocks
    (fun t _ hz hk => ⟨(), trivial, ⟨rfl, L, hP.kept (fun k q hq => hk q.1 (hP k q hq).lt), hD, hSh⟩, Nat.le_trans hS.1 hz, fun q h1 h2 => (hk q (Nat.lt_of_lt_of_le h1 hS.1)).trans (hS.2.1 q h1 h2)⟩) hS.2.2 hc hs
def az_cn (k : Nat) : Nat := if k = 0 then 2 else if k = 1 then 5 else if k = 2 then 7 else if k = 3 then 10 else 12
def az_wn (k : Nat) : Nat := if k = 0 then 26 else if k = 1 then 4 else if k = 2 then 27 else if k = 3 then 44 else 52
theorem az_pick5 {ad : Nat → Nat} {j k : Nat} {f : Nat → Option Nat} (h : f 0 = some (aw_c ad j 2) ∧ f 1 = some (aw_c ad j 5) ∧ f 2 = some (aw_c ad j 7) ∧ f 3 = some (aw_c ad j 10) ∧ f 4 = some (aw_c ad j 12)) (hk : k < 5) : aw_cof (az_cn k) ∧ f k = some (aw_c ad j (az_cn k)) := by
  obtain ⟨h0, h1, h2, h3, h4⟩ := h
  rcases (by omega : k = 0 ∨ k = 1 ∨ k = 2 ∨ k = 3 ∨ k = 4) with rfl | rfl | rfl | rfl | rfl
  · exact ⟨Or.inl rfl, h0⟩
  · exact ⟨Or.inr (Or.inl rfl), h1⟩
  · exact ⟨Or.inr (Or.inr (Or.inl rfl)), h2⟩
  · exact ⟨Or.inr (Or.inr (Or.inr (Or.inl rfl))), h3⟩
  · exact ⟨Or.inr (Or.inr (Or.inr (Or.inr rfl))), h4⟩
theorem aw_cmps (x : Int64) : lg_cmp x x = nI 0 := by
  unfold lg_cmp
  rw [if_neg (Int64.lt_irrefl (a := x)), if_pos rfl]
  rfl
theorem aw_bp {fr m0 : Int32} (h : m0 < 0 ∨ (0 < m0 ∧ fr < 0) ∨ (0 < m0 ∧ ¬ fr < 0 ∧ nI 64 - fr < m0)) : fr < 0 ∨ (¬ fr < 0 ∧ m0 < 0) ∨ (¬ fr < 0 ∧ ¬ m0 < 0 ∧ nI 64 < fr) ∨ (¬ fr < 0 ∧ ¬ m0 < 0 ∧ ¬ nI 64 < fr ∧ nI 64 - fr < m0) := by
  by_cases h1 : fr < 0
  · exact Or.inl h1
  · by_cases h2 : m0 < 0
    · exact Or.inr (Or.inl ⟨h1, h2⟩)
    · by_cases h3 : nI 64 < fr
      · exact Or.inr (Or.inr (Or.inl ⟨h1, h2, h3⟩))
      · rcases h with h | ⟨_, h⟩ | ⟨_, _, h⟩
        · exact absurd h h2
        · exact absurd h h1
        · exact Or.inr (Or.inr (Or.inr ⟨h1, h2, h3, h⟩))
theorem aw_p0f (fr : Int32) : (fr < 0 ∨ (¬ fr < 0 ∧ nI 0 < 0) ∨ (¬ fr < 0 ∧ ¬ nI 0 < 0 ∧ nI 64 < fr) ∨ (¬ fr < 0 ∧ ¬ nI 0 < 0 ∧ ¬ nI 64 < fr ∧ nI 64 - fr < nI 0)) ∨ ∃ k : Nat, fr = nI k ∧ k ≤ 64 := by
  rcases aw_part fr (nI 0) with h | ⟨k, mm, hk, hm, hle⟩
  · exact Or.inl h
  · exact Or.inr ⟨k, hk, by omega⟩
