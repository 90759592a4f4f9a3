/-! The state of a walk over any shape of the one world's list. -/
def ag_H (D : va_G) (N0 : Nat) (Sh : va_W → Prop) (H : Heap) : Prop := ∃ L : va_W, va_P D aw_C L H ∧ va_D (aw_Z N0) L ∧ Sh L
theorem ag_Hr {D : va_G} {N0 : Nat} {Sh : va_W → Prop} {H : Heap} {L : va_W} {t : State} (ht : t.heap = H) (hP : va_P D aw_C L H) (hD : va_D (aw_Z N0) L) (hSh : Sh L) : ag_H D N0 Sh t.heap := ⟨L, by rw [ht]; exact hP, hD, hSh⟩
abbrev ag_B (D : va_G) (g : Nat → ClassId) (N0 : Nat) (Sh : va_W → Prop) : State → Prop := fun U => ag_H D N0 Sh U.heap ∧ aw_U D g N0 U
theorem ag_qS {D : va_G} {g : Nat → ClassId} {N0 : Nat} {Sh : va_W → Prop} {s : State} {H : Heap} {locs : List Loc} {L : va_W} {As : List Value} (hP : va_P D aw_C L H) (hD : va_D (aw_Z N0) L) (hSh : Sh L) (hU : aw_U D g N0 s) (hS : va_S (aw_Z N0) s.heap H locs) : PreS s H (va_Pc As (ag_B D g N0 Sh)) As :=
  ⟨fun a U gg mk q => ⟨q.1, q.2.1, aw_U.same (u := U) rfl rfl q.2.2⟩, fun U hH hW => ⟨rfl, ⟨L, by rw [hH]; exact hP, hD, hSh⟩, hU.call hS hH hW⟩⟩
theorem ag_qV {D : va_G} {g : Nat → ClassId} {N0 : Nat} {Sh : va_W → Prop} {s : State} {H : Heap} {locs : List Loc} {L : va_W} {As : List Value} {C : String} {o : Nat} (hc : ∃ cellB : Cell, H[o]? = some cellB ∧ cellB.vm.isStatics = false ∧ s.vm.findClass C = some cellB.cls) (hP : va_P D aw_C L H) (hD : va_D (aw_Z N0) L) (hSh : Sh L) (hU : aw_U D g N0 s) (hS : va_S (aw_Z N0) s.heap H locs) : PreV s H C o (va_Pc (.ref o :: As) (ag_B D g N0 Sh)) As :=
  ⟨fun a U gg mk q => ⟨q.1, q.2.1, aw_U.same (u := U) rfl rfl q.2.2⟩, hc, fun U hH hW => ⟨rfl, ⟨L, by rw [hH]; exact hP, hD, hSh⟩, hU.call hS hH hW⟩⟩
section AGI
variable {p : Program} {l : Launch} {e : Env} {R : Room} {s : State} {m : MethodId} {args : Array Value} {below : List Frame} {meth : Method} {c : Code} {H : Heap} {locs : List Loc} {cells slots : Nat} {Q : State → Prop}
variable {cc : ByteArray} {pc : Nat} {ls : Array Slot} {rest : List Value} {D : va_G} {cl : List vw_C} {A : Nat → Prop} {a : Nat} {tys : List (ClassId × FieldType)} {ws : va_W} {H0 : Heap} {Sh : va_W → Prop}
theorem ag_put (hexec : p.tables.exec = Jvm.exec) (hb : c.code = cc) {own ref C : String} {T : u_T} {N ci index : Nat} {Ts : List Cond} (hts : ∀ w ∈ Ts, w.before args s = true) (hin : ∀ w ∈ u_ws C T N, w ∈ Ts) (ty0 : Nat → FieldType) (hty : ∀ k, k < N → parseFieldDescriptor (T k).2.2.1 = some (ty0 k)) (hnm : ∀ a, a < N → ∀ b, b < N → a ≠ b → (T a).2.1 ≠ (T b).2.1) (hown : s.vm.findClass own = some m.cls) (hK : va_K D cl tys s) (hP : va_P D cl ws H) (hD : va_D A ws) (hS0 : va_S A H0 H locs) (q0 : Nat) {fs : List Value} (he : ws[q0]? = some (a, .inr (ci, fs))) (hc : cl[ci]? = some (C, T, N)) (k : Nat) (hk : k < N) (hlink : (Cond.fieldLink own index ref (T k).2.1 (T k).2.2.1).before args s = true) (hsame : ∀ x, s.fieldFound? (T k).1 (T k).2.1 (T k).2.2.1 = some x → s.fieldFound? ref (T k).2.1 (T k).2.2.1 = some x) (hfin : (T k).2.2.2 = false) {ty : FieldType} {v : Value} (hd : parseFieldDescriptor (T k).2.2.1 = some ty) (hn : narrow ty v = v) (hfit : fits ty v = true) (hl : k < fs.length)
    (hdg : decode cc pc = .ok (.putfield index, 3)) (hw : Sh (ws.set q0 (a, .inr (ci, fs.set k v)))) (kk : ∀ (H1 : Heap) (locs1 : List Loc) (L1 : va_W), va_P D cl L1 H1 → va_D A L1 → Sh L1 → va_S A H0 H1 locs1 → W p l e R s m args below meth c H1 locs1 cells slots Q (F0 m (pc + 3) ls rest)) : W p l e R s m args below meth c H locs cells slots Q (F0 m pc ls (v :: .ref a :: rest)) :=
  va_put hexec hb hts hin ty0 hty hnm hown hK hP hD hS0 q0 he hc k hk hlink hsame hfin hd hn hfit hl hdg (fun H1 locs1 h1 h2 h3 => kk H1 locs1 _ h1 h2 hw h3)
theorem ag_putN (hexec : p.tables.exec = Jvm.exec) (hb : c.code = cc) {own ref C host : String} {T : u_T} {N ci index : Nat} {Ts : List Cond} (hts : ∀ w ∈ Ts, w.before args s = true) (hin : ∀ w ∈ u_ws C T N, w ∈ Ts) (ty0 : Nat → FieldType) (hty : ∀ k, k < N → parseFieldDescriptor (T k).2.2.1 = some (ty0 k)) (hnm : ∀ a, a < N → ∀ b, b < N → a ≠ b → (T a).2.1 ≠ (T b).2.1) (hown : s.vm.findClass own = some m.cls) (hK : va_K D cl tys s) (hP : va_P D cl ws H) (hD : va_D A ws) (hS0 : va_S A H0 H locs) (q0 : Nat) {fs : List Value} (he : ws[q0]? = some (a, .inr (ci, fs))) (hc : cl[ci]? = some (C, T, N)) (k : Nat) (hk : k < N) (hlink : (Cond.fieldLinkNest own index ref (T k).2.1 (T k).2.2.1 host).before args s = true) (hsame : ∀ x, s.fieldFound? (T k).1 (T k).2.1 (T k).2.2.1 = some x → s.fieldFound? ref (T k).2.1 (T k).2.2.1 = some x) (hfin : (T k).2.2.2 = false) {ty : FieldType} {v : Value} (hd : parseFieldDescriptor (T k).2.2.1 = some ty) (hn : narrow ty v = v) (hfit : fits ty v = true) (hl : k < fs.length)
    (hdg : decode cc pc = .ok (.putfield index, 3)) (hw : Sh (ws.set q0 (a, .inr (ci, fs.set k v)))) (kk : ∀ (H1 : Heap) (locs1 : List Loc) (L1 : va_W), va_P D cl L1 H1 → va_D A L1 → Sh L1 → va_S A H0 H1 locs1 → W p l e R s m args below meth c H1 locs1 cells slots Q (F0 m (pc + 3) ls rest)) : W p l e R s m args below meth c H locs cells slots Q (F0 m pc ls (v :: .ref a :: rest)) :=
  va_putN hexec hb hts hin ty0 hty hnm hown hK hP hD hS0 q0 he hc k hk hlink hsame hfin hd hn hfit hl hdg (fun H1 locs1 h1 h2 h3 => kk H1 locs1 _ h1 h2 hw h3)
theorem ag_ist (hexec : p.tables.exec = Jvm.exec) (hb : c.code = cc) (hK : va_K D cl tys s) (hP : va_P D cl ws H) (hD : va_D A ws) (hS : va_S A H0 H locs) (q0 t0 : Nat) {cA : ClassId} {n : Nat} {f : Nat → Int32} (ha : ws[q0]? = some (a, .inl (cA, n, .inl f))) (ht : tys[t0]? = some (cA, .int)) {k : Nat} {x : Int32} (hk : k < n) (hn : n < 2 ^ 31) (hdg : decode cc pc = .ok (.iastore, 1)) (hw : Sh (ws.set q0 (a, .inl (cA, n, .inl (upd f k x)))))
    (kk : ∀ (H1 : Heap) (locs1 : List Loc) (L1 : va_W), va_P D cl L1 H1 → va_D A L1 → Sh L1 → va_S A H0 H1 locs1 → W p l e R s m args below meth c H1 locs1 cells slots Q (F0 m (pc + 1) ls rest)) : W p l e R s m args below meth c H locs cells slots Q (F0 m pc ls (.int x :: .int (nI k) :: .ref a :: rest)) :=
  aw_ist hexec hb hK hP hD hS q0 t0 ha ht hk hn hdg (fun H1 locs1 h1 h2 h3 => kk H1 locs1 _ h1 h2 hw h3)
theorem ag_lst (hexec : p.tables.exec = Jvm.exec) (hb : c.code = cc) (hK : va_K D cl tys s) (hP : va_P D cl ws H) (hD : va_D A ws) (hS : va_S A H0 H locs) (q0 t0 : Nat) {cA : ClassId} {n : Nat} {f : Nat → Int64} (ha : ws[q0]? = some (a, .inl (cA, n, .inr (.inl f)))) (ht : tys[t0]? = some (cA, .long)) {k : Nat} {x : Int64} (hk : k < n) (hn : n < 2 ^ 31) (hdg : decode cc pc = .ok (.lastore, 1)) (hw : Sh (ws.set q0 (a, .inl (cA, n, .inr (.inl (vp_updL f k x))))))
    (kk : ∀ (H1 : Heap) (locs1 : List Loc) (L1 : va_W), va_P D cl L1 H1 → va_D A L1 → Sh L1 → va_S A H0 H1 locs1 → W p l e R s m args below meth c H1 locs1 cells slots Q (F0 m (pc + 1) ls rest)) : W p l e R s m args below meth c H locs cells slots Q (F0 m pc ls (.long x :: .int (nI k) :: .ref a :: rest)) :=
  aw_lst hexec hb hK hP hD hS q0 t0 ha ht hk hn hdg (fun H1 locs1 h1 h2 h3 => kk H1 locs1 _ h1 h2 hw h3)
end AGI
theorem aw_dnT (T t : Nat) (h : t < T) : aw_dn (T - t) = nI (T - 1 - t) := by
  obtain ⟨k, rfl⟩ : ∃ k, T = t + k + 1 := ⟨T - t - 1, by omega⟩
  rw [show t + k + 1 - t = k + 1 by omega, show t + k + 1 - 1 - t = k by omega]
  rfl
theorem aw_dnS (T t : Nat) (h : t < T) : nI (T - 1 - t) + Int32.ofInt (-1) = aw_dn (T - (t + 1)) := by
  rw [show T - (t + 1) = T - 1 - t by omega]; exact aw_dn_i _
theorem aw_decT (T t : Nat) (h : t < T) : nI (T - t) + Int32.ofInt (-1) = nI (T - (t + 1)) := by
  obtain ⟨k, rfl⟩ : ∃ k, T = t + k + 1 := ⟨T - t - 1, by omega⟩
  rw [show t + k + 1 - t = k + 1 by omega, show t + k + 1 - (t + 1) = k by omega]
  exact aw_dec k
theorem aw_d6T (T t : Nat) (h : t < T) : aw_d6 (T - t) = nI (6 * (T - 1 - t)) := by
  obtain ⟨k, rfl⟩ : ∃ k, T = t + k + 1 := ⟨T - t - 1, by omega⟩
  rw [show t + k + 1 - t = k + 1 by omega, show t + k + 1 - 1 - t = k by omega]
  rfl
theorem aw_d6S (T t : Nat) (h : t < T) : nI (6 * (T - 1 - t)) + Int32.ofInt (-6) = aw_d6 (T - (t + 1)) := by
  rw [show T - (t + 1) = T - 1 - t by omega]; exact aw_d6_i _
