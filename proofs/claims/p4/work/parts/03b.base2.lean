/-! The state of a walk over the one world (cells), what a call asks of it, and rows that write. -/
def aw_Z (N0 : Nat) : Nat → Prop := fun q => N0 ≤ q
def aw_H (D : va_G) (g : Nat → ClassId) (ad : Nat → Nat) (G M : Nat → Nat × Nat) (F : Int32) (N0 : Nat) (H : Heap) : Prop := ∃ L : va_W, va_P D aw_C L H ∧ va_D (aw_Z N0) L ∧ aw_Sh g ad G M F L
theorem aw_Hi {D : va_G} {g : Nat → ClassId} {ad : Nat → Nat} {G M : Nat → Nat × Nat} {F : Int32} {N0 : Nat} {H : Heap} {L : va_W} (hP : va_P D aw_C L H) (hD : va_D (aw_Z N0) L) (hSh : aw_Sh g ad G M F L) : aw_H D g ad G M F N0 H := ⟨L, hP, hD, hSh⟩
theorem aw_Hr {D : va_G} {g : Nat → ClassId} {ad : Nat → Nat} {G M : Nat → Nat × Nat} {F : Int32} {N0 : Nat} {H : Heap} {L : va_W} {t : State} (ht : t.heap = H) (hP : va_P D aw_C L H) (hD : va_D (aw_Z N0) L) (hSh : aw_Sh g ad G M F L) : aw_H D g ad G M F N0 t.heap := ⟨L, by rw [ht]; exact hP, hD, hSh⟩
def aw_F (N0 : Nat) (U : State) (H : Heap) : Prop := vx_Zq Bundle.tN "UNASSIGNED_STACK" Bundle.steD (aw_Z N0) U H ∧ vx_Zq Bundle.tN "SUPPRESSED_SENTINEL" Bundle.listD (aw_Z N0) U H ∧ ∀ q ∈ aw_strs, ∃ a : Nat, vk_R "RuleCiphers" q.1 q.2 a U
def aw_U (D : va_G) (g : Nat → ClassId) (N0 : Nat) (U : State) : Prop := aw_E D g U ∧ aw_F N0 U U.heap ∧ N0 ≤ U.heap.size
theorem aw_F.same {N0 : Nat} {u U : State} (hv : u.vm = U.vm) (hh : u.heap = U.heap) (h : aw_F N0 u u.heap) : aw_F N0 U U.heap := by
  obtain ⟨h1, h2, h3⟩ := h
  rw [← hh]
  have ha : u.vm.Alike U.vm := by rw [hv]; exact Vm.Alike.refl _
  exact ⟨h1.moved ha, h2.moved ha, fun q hq => by obtain ⟨a, ha⟩ := h3 q hq; exact ⟨a, vk_R.same hv.symm ha⟩⟩
theorem aw_F.call {N0 : Nat} {s U : State} {H : Heap} {locs : List Loc} (h : aw_F N0 s s.heap) (hS : va_S (aw_Z N0) s.heap H locs) (hW : s.WarmedH U.vm) : aw_F N0 U H := by
  obtain ⟨h1, h2, h3⟩ := h
  exact ⟨(h1.kept hS.2.1).moved hW.alike, (h2.kept hS.2.1).moved hW.alike, fun q hq => by obtain ⟨a, ha⟩ := h3 q hq; exact ⟨a, vk_R.warm hW ha⟩⟩
theorem aw_U.same {D : va_G} {g : Nat → ClassId} {N0 : Nat} {u U : State} (hv : u.vm = U.vm) (hh : u.heap = U.heap) (h : aw_U D g N0 u) : aw_U D g N0 U := ⟨aw_E.same hv h.1, aw_F.same hv hh h.2.1, by rw [← hh]; exact h.2.2⟩
theorem aw_U.call {D : va_G} {g : Nat → ClassId} {N0 : Nat} {s U : State} {H : Heap} {locs : List Loc} (h : aw_U D g N0 s) (hS : va_S (aw_Z N0) s.heap H locs) (hH : U.heap = H) (hW : s.WarmedH U.vm) : aw_U D g N0 U := ⟨h.1.warm hW, by rw [hH]; exact h.2.1.call hS hW, by rw [hH]; exact Nat.le_trans h.2.2 hS.1⟩
abbrev aw_B (D : va_G) (g : Nat → ClassId) (ad : Nat → Nat) (G M : Nat → Nat × Nat) (F : Int32) (N0 : Nat) : State → Prop := fun U => aw_H D g ad G M F N0 U.heap ∧ aw_U D g N0 U
theorem aw_qS {D : va_G} {g : Nat → ClassId} {ad : Nat → Nat} {G M : Nat → Nat × Nat} {F : Int32} {N0 : Nat} {s : State} {H : Heap} {locs : List Loc} {L : va_W} {As : List Value} (hP : va_P D aw_C L H) (hD : va_D (aw_Z N0) L) (hSh : aw_Sh g ad G M F L) (hU : aw_U D g N0 s) (hS : va_S (aw_Z N0) s.heap H locs) : PreS s H (va_Pc As (aw_B D g ad G M F N0)) As :=
  ⟨fun a U gg mk q => ⟨q.1, q.2.1, aw_U.same (u := U) rfl rfl q.2.2⟩, fun U hH hW => ⟨rfl, ⟨L, by rw [hH]; exact hP, hD, hSh⟩, hU.call hS hH hW⟩⟩
theorem aw_qV {D : va_G} {g : Nat → ClassId} {ad : Nat → Nat} {G M : Nat → Nat × Nat} {F : Int32} {N0 : Nat} {s : State} {H : Heap} {locs : List Loc} {L : va_W} {As : List Value} {C : String} {o : Nat} (hc : ∃ cellB : Cell, H[o]? = some cellB ∧ cellB.vm.isStatics = false ∧ s.vm.findClass C = some cellB.cls) (hP : va_P D aw_C L H) (hD : va_D (aw_Z N0) L) (hSh : aw_Sh g ad G M F L) (hU : aw_U D g N0 s) (hS : va_S (aw_Z N0) s.heap H locs) : PreV s H C o (va_Pc (.ref o :: As) (aw_B D g ad G M F N0)) As :=
  ⟨fun a U gg mk q => ⟨q.1, q.2.1, aw_U.same (u := U) rfl rfl q.2.2⟩, hc, fun U hH hW => ⟨rfl, ⟨L, by rw [hH]; exact hP, hD, hSh⟩, hU.call hS hH hW⟩⟩
section AWI
variable {p : Program} {l : Launch} {e : Env} {R : Room} {s : State} {m : MethodId} {args : Array Value} {below : List Frame} {meth : Method} {c : Code} {H : Heap} {locs : List Loc} {cells slots : Nat} {Q : State → Prop}
variable {cc : ByteArray} {pc : Nat} {ls : Array Slot} {rest : List Value} {D : va_G} {cl : List vw_C} {A : Nat → Prop} {a : Nat} {tys : List (ClassId × FieldType)} {ws : va_W} {H0 : Heap}
variable {g : Nat → ClassId} {ad : Nat → Nat} {G M : Nat → Nat × Nat} {F : Int32}
theorem aw_put (hexec : p.tables.exec = Jvm.exec) (hb : c.code = cc) {own ref C : String} {T : u_T} {N ci index : Nat} {Ts : List Cond} (hts : ∀ w ∈ Ts, w.before args s = true) (hin : ∀ w ∈ u_ws C T N, w ∈ Ts) (ty0 : Nat → FieldType) (hty : ∀ k, k < N → parseFieldDescriptor (T k).2.2.1 = some (ty0 k)) (hnm : ∀ a, a < N → ∀ b, b < N → a ≠ b → (T a).2.1 ≠ (T b).2.1) (hown : s.vm.findClass own = some m.cls) (hK : va_K D cl tys s) (hP : va_P D cl ws H) (hD : va_D A ws) (hS0 : va_S A H0 H locs) (q0 : Nat) {fs : List Value} (he : ws[q0]? = some (a, .inr (ci, fs))) (hc : cl[ci]? = some (C, T, N)) (k : Nat) (hk : k < N) (hlink : (Cond.fieldLink own index ref (T k).2.1 (T k).2.2.1).before args s = true) (hsame : ∀ x, s.fieldFound? (T k).1 (T k).2.1 (T k).2.2.1 = some x → s.fieldFound? ref (T k).2.1 (T k).2.2.1 = some x) (hfin : (T k).2.2.2 = false) {ty : FieldType} {v : Value} (hd : parseFieldDescriptor (T k).2.2.1 = some ty) (hn : narrow ty v = v) (hfit : fits ty v = true) (hl : k < fs.length)
    (hdg : decode cc pc = .ok (.putfield index, 3)) (hw : aw_Sh g ad G M F (ws.set q0 (a, .inr (ci, fs.set k v)))) (kk : ∀ (H1 : Heap) (locs1 : List Loc) (L1 : va_W), va_P D cl L1 H1 → va_D A L1 → aw_Sh g ad G M F L1 → va_S A H0 H1 locs1 → W p l e R s m args below meth c H1 locs1 cells slots Q (F0 m (pc + 3) ls rest)) : W p l e R s m args below meth c H locs cells slots Q (F0 m pc ls (v :: .ref a :: rest)) :=
  va_put hexec hb hts hin ty0 hty hnm hown hK hP hD hS0 q0 he hc k hk hlink hsame hfin hd hn hfit hl hdg (fun H1 locs1 h1 h2 h3 => kk H1 locs1 _ h1 h2 hw h3)
theorem aw_putN (hexec : p.tables.exec = Jvm.exec) (hb : c.code = cc) {own ref C host : String} {T : u_T} {N ci index : Nat} {Ts : List Cond} (hts : ∀ w ∈ Ts, w.before args s = true) (hin : ∀ w ∈ u_ws C T N, w ∈ Ts) (ty0 : Nat → FieldType) (hty : ∀ k, k < N → parseFieldDescriptor (T k).2.2.1 = some (ty0 k)) (hnm : ∀ a, a < N → ∀ b, b < N → a ≠ b → (T a).2.1 ≠ (T b).2.1) (hown : s.vm.findClass own = some m.cls) (hK : va_K D cl tys s) (hP : va_P D cl ws H) (hD : va_D A ws) (hS0 : va_S A H0 H locs) (q0 : Nat) {fs : List Value} (he : ws[q0]? = some (a, .inr (ci, fs))) (hc : cl[ci]? = some (C, T, N)) (k : Nat) (hk : k < N) (hlink : (Cond.fieldLinkNest own index ref (T k).2.1 (T k).2.2.1 host).before args s = true) (hsame : ∀ x, s.fieldFound? (T k).1 (T k).2.1 (T k).2.2.1 = some x → s.fieldFound? ref (T k).2.1 (T k).2.2.1 = some x) (hfin : (T k).2.2.2 = false) {ty : FieldType} {v : Value} (hd : parseFieldDescriptor (T k).2.2.1 = some ty) (hn : narrow ty v = v) (hfit : fits ty v = true) (hl : k < fs.length)
    (hdg : decode cc pc = .ok (.putfield index, 3)) (hw : aw_Sh g ad G M F (ws.set q0 (a, .inr (ci, fs.set k v)))) (kk : ∀ (H1 : Heap) (locs1 : List Loc) (L1 : va_W), va_P D cl L1 H1 → va_D A L1 → aw_Sh g ad G M F L1 → va_S A H0 H1 locs1 → W p l e R s m args below meth c H1 locs1 cells slots Q (F0 m (pc + 3) ls rest)) : W p l e R s m args below meth c H locs cells slots Q (F0 m pc ls (v :: .ref a :: rest)) :=
  va_putN hexec hb hts hin ty0 hty hnm hown hK hP hD hS0 q0 he hc k hk hlink hsame hfin hd hn hfit hl hdg (fun H1 locs1 h1 h2 h3 => kk H1 locs1 _ h1 h2 hw h3)
theorem aw_istI (hexec : p.tables.exec = Jvm.exec) (hb : c.code = cc) (hK : va_K D cl tys s) (hP : va_P D cl ws H) (hD : va_D A ws) (hS : va_S A H0 H locs) (q0 t0 : Nat) {cA : ClassId} {n : Nat} {f : Nat → Int32} (ha : ws[q0]? = some (a, .inl (cA, n, .inl f))) (ht : tys[t0]? = some (cA, .int)) {k : Nat} {x : Int32} (hk : k < n) (hn : n < 2 ^ 31) (hdg : decode cc pc = .ok (.iastore, 1)) (hw : aw_Sh g ad G M F (ws.set q0 (a, .inl (cA, n, .inl (upd f k x)))))
    (kk : ∀ (H1 : Heap) (locs1 : List Loc) (L1 : va_W), va_P D cl L1 H1 → va_D A L1 → aw_Sh g ad G M F L1 → va_S A H0 H1 locs1 → W p l e R s m args below meth c H1 locs1 cells slots Q (F0 m (pc + 1) ls rest)) : W p l e R s m args below meth c H locs cells slots Q (F0 m pc ls (.int x :: .int (nI k) :: .ref a :: rest)) :=
  aw_ist hexec hb hK hP hD hS q0 t0 ha ht hk hn hdg (fun H1 locs1 h1 h2 h3 => kk H1 locs1 _ h1 h2 hw h3)
theorem aw_lstI (hexec : p.tables.exec = Jvm.exec) (hb : c.code = cc) (hK : va_K D cl tys s) (hP : va_P D cl ws H) (hD : va_D A ws) (hS : va_S A H0 H locs) (q0 t0 : Nat) {cA : ClassId} {n : Nat} {f : Nat → Int64} (ha : ws[q0]? = some (a, .inl (cA, n, .inr (.inl f)))) (ht : tys[t0]? = some (cA, .long)) {k : Nat} {x : Int64} (hk : k < n) (hn : n < 2 ^ 31) (hdg : decode cc pc = .ok (.lastore, 1)) (hw : aw_Sh g ad G M F (ws.set q0 (a, .inl (cA, n, .inr (.inl (vp_updL f k x))))))
    (kk : ∀ (H1 : Heap) (locs1 : List Loc) (L1 : va_W), va_P D cl L1 H1 → va_D A L1 → aw_Sh g ad G M F L1 → va_S A H0 H1 locs1 → W p l e R s m args below meth c H1 locs1 cells slots Q (F0 m (pc + 1) ls rest)) : W p l e R s m args below meth c H locs cells slots Q (F0 m pc ls (.long x :: .int (nI k) :: .ref a :: rest)) :=
  aw_lst hexec hb hK hP hD hS q0 t0 ha ht hk hn hdg (fun H1 locs1 h1 h2 h3 => kk H1 locs1 _ h1 h2 hw h3)
theorem aw_wVN {own C host : String} {index maxL : Nat} {y : MethodName} {bytes : ByteArray} {ret : Option FieldType} {rm : Room} (n : Nat) {mc ms : Nat} (hG : ∀ w ∈ aw_G, w.before args s = true) (hN : aw_N s) (hcode : Cond.code y bytes maxL ret ∈ aw_G) (hlink : Cond.methodLinkNest own index y host ∈ aw_nest) (hini : Cond.initialized y.cls ∈ aw_G) (hin : Cond.instanceMethod y ∈ aw_G) (hsel : Cond.selects C y y ∈ aw_G) (hrc : rm.cells = mc) (hrs : rm.slots = ms)
    (hd : y.cls ≠ "java/lang/invoke/MethodHandle" ∧ y.cls ≠ "java/lang/invoke/VarHandle" ∧ (parseMethodDescriptor y.desc).map (fun d => d.parameters.length) = some n) (hR : rm.frames + 1 ≤ R.frames ∧ 8 + (maxL + 11) + rm.locals ≤ R.locals) :
    va_CN R s args own index y host bytes maxL ret (Cond.code y bytes maxL ret :: aw_G) rm mc ms n ∧ (Cond.instanceMethod y).before args s = true ∧ (Cond.selects C y y).before args s = true :=
  ⟨va_cnB n hG (aw_gi hcode) rfl hrc hrs (hN _ hlink) (hG _ hini) hd hR, hG _ hin, hG _ hsel⟩
end AWI
theorem aw_inc (a c : Nat) (k : Int) (h : Int32.ofInt k = nI c) : nI a + Int32.ofInt k = nI (a + c) := by rw [h]; exact nI_add a c
theorem aw_dec (d : Nat) : nI (d + 1) + Int32.ofInt (-1) = nI d := by
  rw [show Int32.ofInt (-1) = -1 by decide +kernel]; exact pk_m1 d
theorem aw_dn_i (k : Nat) : nI k + Int32.ofInt (-1) = aw_dn k := by
  rw [show Int32.ofInt (-1) = -1 by decide +kernel]; exact aw_dn_s k
def aw_d6 : Nat → Int32
  | 0 => Int32.ofInt (-6)
  | k + 1 => nI (6 * k)
theorem aw_d6_i (k : Nat) : nI (6 * k) + Int32.ofInt (-6) = aw_d6 k := by
  cases k with
  | zero => decide +kernel
  | succ n =>
    show nI (6 * n + 6) + Int32.ofInt (-6) = nI (6 * n)
    rw [← nI_add, Int32.add_assoc, show nI 6 + Int32.ofInt (-6) = 0 by decide +kernel, Int32.add_zero]
theorem aw_place {x : Int32} {n : Nat} (h0 : ¬ x < 0) (h1 : x < nI n) (hn : n < 2 ^ 31) : ∃ k : Nat, k < n ∧ x = nI k := by
  obtain ⟨j, hj, rfl⟩ := nI_of h0
  exact ⟨j, (nI_ltI hj hn).mp h1, rfl⟩
theorem aw_sw (x : Int32) {n : Nat} (hn : n < 2 ^ 31) : (x.toInt < 0 ∨ (n : Int) - 1 < x.toInt) ∨ ∃ k : Nat, k < n ∧ x = nI k := by
  by_cases h : vp_in x n
  · exact Or.inr (vp_in_of h hn)
  · refine Or.inl ?_
    rw [vp_in_iff] at h
    omega
theorem aw_pick5 {ad : Nat → Nat} {j k : Nat} {f : Nat → Option Nat} (h : f 0 = some (aw_c ad j 2) ∧ f 1 = some (aw_c ad j 5) ∧ f 2 = some (aw_c ad j 7) ∧ f 3 = some (aw_c ad j 10) ∧ f 4 = some (aw_c ad j 12)) (hk : k < 5) : ∃ o : Nat, aw_cof o ∧ f k = some (aw_c ad j o) := by
  obtain ⟨h0, h1, h2, h3, h4⟩ := h
  rcases (by omega : k = 0 ∨ k = 1 ∨ k = 2 ∨ k = 3 ∨ k = 4) with rfl | rfl | rfl | rfl | rfl
  · exact ⟨2, Or.inl rfl, h0⟩
  · exact ⟨5, Or.inr (Or.inl rfl), h1⟩
  · exact ⟨7, Or.inr (Or.inr (Or.inl rfl)), h2⟩
  · exact ⟨10, Or.inr (Or.inr (Or.inr (Or.inl rfl))), h3⟩
  · exact ⟨12, Or.inr (Or.inr (Or.inr (Or.inr rfl))), h4⟩
/-- 'throw new E("text")' out of a method without handlers, over the one world -/
theorem aw_thr {p : Program} {l : Launch} {e : Env} {R : Room} {s : State} {m : MethodId} {args : Array Value} {below : List Frame} {meth : Method} {c : Code} {H : Heap} {locs : List Loc} {cells slots : Nat} {ls : Array Slot} {rest : List Value} {D : va_G} {g : Nat → ClassId} {ad : Nat → Nat} {G M : Nat → Nat × Nat} {F : Int32} {N0 : Nat} {L : va_W} {Qc : Array Value → State → Outcome → State → Prop}
    {cc : ByteArray} {pc : Nat} (hexec : p.tables.exec = Jvm.exec) (hb : c.code = cc) (hl : l.stackTraces = false) {own cls text : String} {names : List String} {ik is ic mc ms sa : Nat}
    (hown : s.vm.findClass own = some m.cls) (hcls : Bundle.fit cls = true) (hnames : ∀ n ∈ names, Bundle.fit n = true)
    (hk : (Cond.classLink own ik cls).before args s = true) (hini : (Cond.initialized cls).before args s = true) (hstr : vk_R own is text sa s) (hat : ∀ w ∈ vx_atS own ic cls names, w.before args s = true)
    (hgood : ∀ w ∈ Cond.classLink own ik cls :: Cond.initialized cls :: vx_atS own ic cls names, vx_ot w = true)
    (hU : aw_U D g N0 s) (hP : va_P D aw_C L H) (hD : va_D (aw_Z N0) L) (hSh : aw_Sh g ad G M F L) (hS : va_S (aw_Z N0) s.heap H locs) (hsize : ls.size = c.maxLocals)
    (d0 : decode cc pc = .ok (.new ik, 3)) (d3 : decode cc (pc + 3) = .ok (.dup, 1)) (d4 : decode cc (pc + 4) = .ok (.ldc is, 2)) (d6 : decode cc (pc + 6) = .ok (.invokespecial ic, 3)) (d9 : decode cc (pc + 9) = .ok (.athrow, 1))
    (hout : ∀ x ∈ c.exceptionTable.toList, covers x (pc + 9) = false)
    (hRframes : names.length + 3 < R.frames) (hRlocals : (rest.map fun v => v.category).sum + (13 * (names.length + 1) + 43) ≤ R.locals) (hRcells : cells + 1 ≤ R.cells) (hRslots : slots + 6 ≤ R.slots) (hlocks : meth.locks = false)
    (hc : cells + 1 ≤ mc) (hs : slots + 6 ≤ ms) :
    W p l e R s m args below meth c H locs cells slots (vx_MQ below Qc (vx_X (fun (_ : Unit) => True) (fun E (_ : Unit) t => E = cls ∧ aw_H D g ad G M F N0 t.heap) (aw_Z N0)) args s mc ms (aw_Z N0)) (F0 m pc ls rest) :=
  vx_throwS hexec hb hl hown hcls hnames hk hini hstr hat hgood hU.2.1.1 hU.2.1.2.1 hS hsize d0 d3 d4 d6 d9 hout hRframes hRlocals hRcells hRslots hlocks
    (fun t _ hz hk => ⟨(), trivial, ⟨rfl, L, hP.kept (fun k q hq => hk q.1 (hP k q hq).lt), hD, hSh⟩, Nat.le_trans hS.1 hz, fun q h1 h2 => (hk q (Nat.lt_of_lt_of_le h1 hS.1)).trans (hS.2.1 q h1 h2)⟩) hS.2.2 hc hs
theorem aw_ps0 {P : ClassFile.ExceptionTableEntry → Prop} : ∀ z ∈ ([] : List ClassFile.ExceptionTableEntry), P z := fun _ h => nomatch h
theorem aw_psc {P : ClassFile.ExceptionTableEntry → Prop} {x : ClassFile.ExceptionTableEntry} {l : List ClassFile.ExceptionTableEntry} (h : P x) (t : ∀ z ∈ l, P z) : ∀ z ∈ x :: l, P z := fun z hz => (List.mem_cons.mp hz).elim (fun e => by rw [e]; exact h) (t z)
