/-! Rows for constructors: a world L0 ++ T, where T is spelled out and L0 is what was there before. -/
theorem aw_ap {α : Type} (L0 T : List α) (k : Nat) : (L0 ++ T)[L0.length + k]? = T[k]? := by
  rw [List.getElem?_append_right (Nat.le_add_right _ _), Nat.add_sub_cancel_left]
theorem aw_as {α : Type} (L0 T : List α) (k : Nat) (x : α) : (L0 ++ T).set (L0.length + k) x = L0 ++ T.set k x := by
  rw [List.set_append_right _ _ (Nat.le_add_right _ _), Nat.add_sub_cancel_left]
section AWK
variable {p : Program} {l : Launch} {e : Env} {R : Room} {s : State} {m : MethodId} {args : Array Value} {below : List Frame} {meth : Method} {c : Code} {H : Heap} {locs : List Loc} {cells slots : Nat} {Q : State → Prop}
variable {cc : ByteArray} {pc : Nat} {ls : Array Slot} {rest : List Value} {D : va_G} {cl : List vw_C} {A : Nat → Prop} {a : Nat} {tys : List (ClassId × FieldType)} {L0 T : va_W} {H0 : Heap} {g : Nat → ClassId}
theorem aw_kI (hexec : p.tables.exec = Jvm.exec) (hb : c.code = cc) (harr : (Cond.arrayClass .int).before args s = true) (hE : aw_E D g s) (hP : va_P D aw_C (L0 ++ T) H) (hD : va_D A (L0 ++ T)) (hS : va_S A H0 H locs) (hA : ∀ q, H0.size ≤ q → A q) {N : Nat} (hN : N < 1000) (hcells : cells + 1 ≤ R.cells) (hslots : slots + N ≤ R.slots) (hdg : decode cc pc = .ok (.newarray .int, 2))
    (kk : ∀ (q : Nat) (H1 : Heap), va_P D aw_C (L0 ++ (T ++ [(q, .inl (g 0, N, .inl (fun _ => 0)))])) H1 → va_D A (L0 ++ (T ++ [(q, .inl (g 0, N, .inl (fun _ => 0)))])) → va_S A H0 H1 locs → W p l e R s m args below meth c H1 locs (cells + 1) (slots + N) Q (F0 m (pc + 2) ls (.ref q :: rest))) : W p l e R s m args below meth c H locs cells slots Q (F0 m pc ls (.int (nI N) :: rest)) := by
  refine va_newa hexec hb (atype := .int) (ty := .int) harr rfl hE.1 hP hD hS hA (a0 := (N, .inl (fun _ => 0))) (fun cA => by rw [vp_cell_i]; rfl) (nI_pos (by omega)) (nI_clamp (by omega)) (by simp [componentBytes]; omega) hcells hslots hdg (fun q cA H1 hK1 h1 h2 h3 => ?_)
  have e9 : cA = g 0 := aw_one hK1 (i := 4) (j := 0) rfl rfl
  subst e9
  rw [List.append_assoc] at h1 h2
  exact kk q H1 h1 h2 h3
theorem aw_kL (hexec : p.tables.exec = Jvm.exec) (hb : c.code = cc) (harr : (Cond.arrayClass .long).before args s = true) (hE : aw_E D g s) (hP : va_P D aw_C (L0 ++ T) H) (hD : va_D A (L0 ++ T)) (hS : va_S A H0 H locs) (hA : ∀ q, H0.size ≤ q → A q) {N : Nat} (hN : N < 1000) (hcells : cells + 1 ≤ R.cells) (hslots : slots + N ≤ R.slots) (hdg : decode cc pc = .ok (.newarray .long, 2))
    (kk : ∀ (q : Nat) (H1 : Heap), va_P D aw_C (L0 ++ (T ++ [(q, .inl (g 1, N, .inr (.inl (fun _ => 0))))])) H1 → va_D A (L0 ++ (T ++ [(q, .inl (g 1, N, .inr (.inl (fun _ => 0))))])) → va_S A H0 H1 locs → W p l e R s m args below meth c H1 locs (cells + 1) (slots + N) Q (F0 m (pc + 2) ls (.ref q :: rest))) : W p l e R s m args below meth c H locs cells slots Q (F0 m pc ls (.int (nI N) :: rest)) := by
  refine va_newa hexec hb (atype := .long) (ty := .long) harr rfl hE.1 hP hD hS hA (a0 := (N, .inr (.inl (fun _ => 0)))) (fun cA => by rw [vp_cell_l]; rfl) (nI_pos (by omega)) (nI_clamp (by omega)) (by simp [componentBytes]; omega) hcells hslots hdg (fun q cA H1 hK1 h1 h2 h3 => ?_)
  have e9 : cA = g 1 := aw_oneL hK1 (i := 4) (j := 1) rfl rfl
  subst e9
  rw [List.append_assoc] at h1 h2
  exact kk q H1 h1 h2 h3
theorem aw_kF (hexec : p.tables.exec = Jvm.exec) (hb : c.code = cc) {own ref C : String} {TT : u_T} {N ci index : Nat} {Ts : List Cond} (hts : ∀ w ∈ Ts, w.before args s = true) (hin : ∀ w ∈ u_ws C TT N, w ∈ Ts) (ty0 : Nat → FieldType) (hty : ∀ k, k < N → parseFieldDescriptor (TT k).2.2.1 = some (ty0 k)) (hnm : ∀ a, a < N → ∀ b, b < N → a ≠ b → (TT a).2.1 ≠ (TT b).2.1) (hown : s.vm.findClass own = some m.cls) (hK : va_K D cl tys s) (hP : va_P D cl (L0 ++ T) H) (hD : va_D A (L0 ++ T)) (hS0 : va_S A H0 H locs) (q0 : Nat) {fs : List Value} (he : T[q0]? = some (a, .inr (ci, fs))) (hc : cl[ci]? = some (C, TT, N)) (k : Nat) (hk : k < N) (hlink : (Cond.fieldLink own index ref (TT k).2.1 (TT k).2.2.1).before args s = true) (hsame : ∀ x, s.fieldFound? (TT k).1 (TT k).2.1 (TT k).2.2.1 = some x → s.fieldFound? ref (TT k).2.1 (TT k).2.2.1 = some x) (hfin : (TT k).2.2.2 = true) (hin2 : meth.name = "<init>") (hdecl : (TT k).1 = own) {ty : FieldType} {v : Value} (hd : parseFieldDescriptor (TT k).2.2.1 = some ty) (hn : narrow ty v = v) (hfit : fits ty v = true) (hl : k < fs.length)
    (hdg : decode cc pc = .ok (.putfield index, 3)) (kk : ∀ (H1 : Heap) (locs1 : List Loc), va_P D cl (L0 ++ T.set q0 (a, .inr (ci, fs.set k v))) H1 → va_D A (L0 ++ T.set q0 (a, .inr (ci, fs.set k v))) → va_S A H0 H1 locs1 → W p l e R s m args below meth c H1 locs1 cells slots Q (F0 m (pc + 3) ls rest)) : W p l e R s m args below meth c H locs cells slots Q (F0 m pc ls (v :: .ref a :: rest)) :=
  va_putF hexec hb hts hin ty0 hty hnm hown hK hP hD hS0 (L0.length + q0) ((aw_ap L0 T q0).trans he) hc k hk hlink hsame hfin hin2 hdecl hd hn hfit hl hdg (fun H1 locs1 h1 h2 h3 => kk H1 locs1 (by rw [aw_as] at h1; exact h1) (by rw [aw_as] at h2; exact h2) h3)
theorem aw_kP (hexec : p.tables.exec = Jvm.exec) (hb : c.code = cc) {own ref C : String} {TT : u_T} {N ci index : Nat} {Ts : List Cond} (hts : ∀ w ∈ Ts, w.before args s = true) (hin : ∀ w ∈ u_ws C TT N, w ∈ Ts) (ty0 : Nat → FieldType) (hty : ∀ k, k < N → parseFieldDescriptor (TT k).2.2.1 = some (ty0 k)) (hnm : ∀ a, a < N → ∀ b, b < N → a ≠ b → (TT a).2.1 ≠ (TT b).2.1) (hown : s.vm.findClass own = some m.cls) (hK : va_K D cl tys s) (hP : va_P D cl (L0 ++ T) H) (hD : va_D A (L0 ++ T)) (hS0 : va_S A H0 H locs) (q0 : Nat) {fs : List Value} (he : T[q0]? = some (a, .inr (ci, fs))) (hc : cl[ci]? = some (C, TT, N)) (k : Nat) (hk : k < N) (hlink : (Cond.fieldLink own index ref (TT k).2.1 (TT k).2.2.1).before args s = true) (hsame : ∀ x, s.fieldFound? (TT k).1 (TT k).2.1 (TT k).2.2.1 = some x → s.fieldFound? ref (TT k).2.1 (TT k).2.2.1 = some x) (hfin : (TT k).2.2.2 = false) {ty : FieldType} {v : Value} (hd : parseFieldDescriptor (TT k).2.2.1 = some ty) (hn : narrow ty v = v) (hfit : fits ty v = true) (hl : k < fs.length)
    (hdg : decode cc pc = .ok (.putfield index, 3)) (kk : ∀ (H1 : Heap) (locs1 : List Loc), va_P D cl (L0 ++ T.set q0 (a, .inr (ci, fs.set k v))) H1 → va_D A (L0 ++ T.set q0 (a, .inr (ci, fs.set k v))) → va_S A H0 H1 locs1 → W p l e R s m args below meth c H1 locs1 cells slots Q (F0 m (pc + 3) ls rest)) : W p l e R s m args below meth c H locs cells slots Q (F0 m pc ls (v :: .ref a :: rest)) :=
  va_put hexec hb hts hin ty0 hty hnm hown hK hP hD hS0 (L0.length + q0) ((aw_ap L0 T q0).trans he) hc k hk hlink hsame hfin hd hn hfit hl hdg (fun H1 locs1 h1 h2 h3 => kk H1 locs1 (by rw [aw_as] at h1; exact h1) (by rw [aw_as] at h2; exact h2) h3)
theorem aw_kN {own C : String} {TT : u_T} {N ci index : Nat} {Ts : List Cond} (hexec : p.tables.exec = Jvm.exec) (hb : c.code = cc) (hts : ∀ w ∈ Ts, w.before args s = true) (hin : ∀ w ∈ u_ws C TT N, w ∈ Ts) (ty : Nat → FieldType) (hty : ∀ k, k < N → parseFieldDescriptor (TT k).2.2.1 = some (ty k)) (hown : s.vm.findClass own = some m.cls) (hcl : (Cond.classLink own index C).before args s = true) (hinst : (Cond.instantiable C N).before args s = true) (hini : (Cond.initialized C).before args s = true)
    (hK : va_K D cl tys s) (hP : va_P D cl (L0 ++ T) H) (hD : va_D A (L0 ++ T)) (hS : va_S A H0 H locs) (hA : ∀ q, H0.size ≤ q → A q) (hc : cl[ci]? = some (C, TT, N)) {fs : List Value} (hfs : ∀ j, j < N → defaultValue (ty j) = vp_V fs j) (hcells : cells + 1 ≤ R.cells) (hslots : slots + N ≤ R.slots) (hdg : decode cc pc = .ok (.new index, 3))
    (kk : ∀ (q : Nat) (H1 : Heap), va_P D cl (L0 ++ (T ++ [(q, .inr (ci, fs))])) H1 → va_D A (L0 ++ (T ++ [(q, .inr (ci, fs))])) → va_S A H0 H1 locs → W p l e R s m args below meth c H1 locs (cells + 1) (slots + N) Q (F0 m (pc + 3) ls (.ref q :: rest))) : W p l e R s m args below meth c H locs cells slots Q (F0 m pc ls rest) :=
  va_new hexec hb hts hin ty hty hown hcl hinst hini hK hP hD hS hA hc hfs hcells hslots hdg (fun q H1 h1 h2 h3 => kk q H1 (by rw [List.append_assoc] at h1; exact h1) (by rw [List.append_assoc] at h2; exact h2) h3)
theorem aw_kQ (hexec : p.tables.exec = Jvm.exec) (hb : c.code = cc) {own C : String} {index : Nat} (gi : Nat) (hown : s.vm.findClass own = some m.cls) (hclink : (Cond.classLink own index C).before args s = true) (hover : va_AO C s) (hE : aw_E D g s) (hgi : (aw_T g)[gi]? = some (g gi, .object C)) (hP : va_P D aw_C (L0 ++ T) H) (hD : va_D A (L0 ++ T)) (hS : va_S A H0 H locs) (hA : ∀ q, H0.size ≤ q → A q) {N : Nat} (hN : N < 1000) (hcells : cells + 1 ≤ R.cells) (hslots : slots + N ≤ R.slots) (hdg : decode cc pc = .ok (.anewarray index, 3))
    (kk : ∀ (q : Nat) (H1 : Heap), va_P D aw_C (L0 ++ (T ++ [(q, .inl (g gi, N, .inr (.inr (.inr (.inr (fun _ => none))))))])) H1 → va_D A (L0 ++ (T ++ [(q, .inl (g gi, N, .inr (.inr (.inr (.inr (fun _ => none))))))])) → va_S A H0 H1 locs → W p l e R s m args below meth c H1 locs (cells + 1) (slots + N) Q (F0 m (pc + 3) ls (.ref q :: rest))) : W p l e R s m args below meth c H locs cells slots Q (F0 m pc ls (.int (nI N) :: rest)) := by
  refine va_newq hexec hb hown hclink hover hE.1 hP hD hS hA (nI_pos (by omega)) (nI_clamp (by omega)) (by omega) hcells hslots hdg (fun q cA H1 hK1 h1 h2 h3 => ?_)
  have e9 : cA = g gi := aw_oneQ (C := C) hK1 (i := 4) (j := gi) rfl (by
    rw [List.getElem?_append_left (List.getElem?_eq_some_iff.mp hgi).1]; exact hgi)
  subst e9
  rw [List.append_assoc] at h1 h2
  exact kk q H1 h1 h2 h3
/-- an object stored into an array of references: its class is the array's, or castable to it -/
theorem aw_kA (hexec : p.tables.exec = Jvm.exec) (hb : c.code = cc) (hK : va_K D cl tys s) (hP : va_P D cl (L0 ++ T) H) (hD : va_D A (L0 ++ T)) (hS : va_S A H0 H locs) (q0 t0 qk ci : Nat) {E : String} {cA : ClassId} {r : vw_C} {n v : Nat} {vs : List Value} {f : Nat → Option Nat} (ha : T[q0]? = some (a, .inl (cA, n, .inr (.inr (.inr (.inr f)))))) (ht : tys[t0]? = some (cA, .object E)) (hca : va_Nw (.castable r.1 E) s) (hv : T[qk]? = some (v, .inr (ci, vs))) (hc : cl[ci]? = some r) {k : Nat} (hk : k < n) (hn : n < 1000) (hdg : decode cc pc = .ok (.aastore, 1))
    (kk : ∀ (H1 : Heap) (locs1 : List Loc), va_P D cl (L0 ++ T.set q0 (a, .inl (cA, n, .inr (.inr (.inr (.inr (va_up f k (some v)))))))) H1 → va_D A (L0 ++ T.set q0 (a, .inl (cA, n, .inr (.inr (.inr (.inr (va_up f k (some v)))))))) → va_S A H0 H1 locs1 → W p l e R s m args below meth c H1 locs1 cells slots Q (F0 m (pc + 1) ls rest)) : W p l e R s m args below meth c H locs cells slots Q (F0 m pc ls (.ref v :: .int (nI k) :: .ref a :: rest)) :=
  va_astqO hexec hb hK hP hD hS (L0.length + q0) t0 (L0.length + qk) ci ((aw_ap L0 T q0).trans ha) ht hca ((aw_ap L0 T qk).trans hv) hc (nI_in hk (by omega)) hdg (fun H1 locs1 h1 h2 h3 => by
    rw [nI_clamp (by omega), aw_as] at h1 h2
    exact kk H1 locs1 h1 h2 h3)
end AWK
section AWK2
variable {p : Program} {l : Launch} {e : Env} {R : Room} {s : State} {m : MethodId} {args : Array Value} {below : List Frame} {meth : Method} {c : Code} {H : Heap} {locs : List Loc} {cells slots : Nat} {Q : State → Prop}
variable {cc : ByteArray} {pc : Nat} {ls : Array Slot} {rest : List Value} {D : va_G} {cl : List vw_C} {A : Nat → Prop} {a : Nat} {tys : List (ClassId × FieldType)} {L0 T : va_W} {H0 : Heap} {g : Nat → ClassId} {N0 : Nat}
theorem aw_kS (hexec : p.tables.exec = Jvm.exec) (hb : c.code = cc) (hK : va_K D cl tys s) (hP : va_P D cl (L0 ++ T) H) (hD : va_D A (L0 ++ T)) (hS : va_S A H0 H locs) (q0 t0 qk ci : Nat) {cA : ClassId} {r : vw_C} {n v : Nat} {vs : List Value} {f : Nat → Option Nat} (ha : T[q0]? = some (a, .inl (cA, n, .inr (.inr (.inr (.inr f)))))) (ht : tys[t0]? = some (cA, .object r.1)) (hv : T[qk]? = some (v, .inr (ci, vs))) (hc : cl[ci]? = some r) {k : Nat} (hk : k < n) (hn : n < 1000) (hdg : decode cc pc = .ok (.aastore, 1))
    (kk : ∀ (H1 : Heap) (locs1 : List Loc), va_P D cl (L0 ++ T.set q0 (a, .inl (cA, n, .inr (.inr (.inr (.inr (va_up f k (some v)))))))) H1 → va_D A (L0 ++ T.set q0 (a, .inl (cA, n, .inr (.inr (.inr (.inr (va_up f k (some v)))))))) → va_S A H0 H1 locs1 → W p l e R s m args below meth c H1 locs1 cells slots Q (F0 m (pc + 1) ls rest)) : W p l e R s m args below meth c H locs cells slots Q (F0 m pc ls (.ref v :: .int (nI k) :: .ref a :: rest)) :=
  va_astq hexec hb hK hP hD hS (L0.length + q0) t0 (L0.length + qk) ci ((aw_ap L0 T q0).trans ha) ht ((aw_ap L0 T qk).trans hv) hc (nI_in hk (by omega)) hdg (fun H1 locs1 h1 h2 h3 => by
    rw [nI_clamp (by omega), aw_as] at h1 h2
    exact kk H1 locs1 h1 h2 h3)
end AWK2
/-- what the makers ask beside: arrays over Cipher and Context, and that the five are Ciphers -/
def aw_EC (U : State) : Prop := va_AO "RuleCiphers$Cipher" U ∧ va_AO "RuleCiphers$Context" U ∧ va_Nw (.castable "RuleCiphers$Rc5" "RuleCiphers$Cipher") U ∧ va_Nw (.castable "RuleCiphers$Xtea" "RuleCiphers$Cipher") U ∧ va_Nw (.castable "RuleCiphers$Speck" "RuleCiphers$Cipher") U ∧ va_Nw (.castable "RuleCiphers$Simon" "RuleCiphers$Cipher") U ∧ va_Nw (.castable "RuleCiphers$Idea" "RuleCiphers$Cipher") U
theorem aw_EC.warm {s U : State} (hW : s.WarmedH U.vm) (h : aw_EC s) : aw_EC U := by
  obtain ⟨h1, h2, h3, h4, h5, h6, h7⟩ := h
  exact ⟨h1.moved hW.alike, h2.moved hW.alike, va_Nw.warmC hW h3, va_Nw.warmC hW h4, va_Nw.warmC hW h5, va_Nw.warmC hW h6, va_Nw.warmC hW h7⟩
theorem aw_EC.same {s U : State} (hv : s.vm = U.vm) (h : aw_EC s) : aw_EC U := by
  obtain ⟨h1, h2, h3, h4, h5, h6, h7⟩ := h
  have ha : s.vm.Alike U.vm := by rw [hv]; exact Vm.Alike.refl _
  exact ⟨h1.moved ha, h2.moved ha, va_Nw.same rfl hv h3, va_Nw.same rfl hv h4, va_Nw.same rfl hv h5, va_Nw.same rfl hv h6, va_Nw.same rfl hv h7⟩
/-- a maker's start: the world, the tables -/
def aw_K (D : va_G) (g : Nat → ClassId) (N0 : Nat) (L : va_W) : State → Prop := fun U => (va_P D aw_C L U.heap ∧ va_D (aw_Z N0) L) ∧ aw_E D g U ∧ aw_EC U ∧ N0 ≤ U.heap.size
theorem aw_qK {D : va_G} {g : Nat → ClassId} {N0 : Nat} {s : State} {H : Heap} {locs : List Loc} {L : va_W} {As : List Value} (hP : va_P D aw_C L H) (hD : va_D (aw_Z N0) L) (hE : aw_E D g s) (hC : aw_EC s) (hN0 : N0 ≤ s.heap.size) (hS : va_S (aw_Z N0) s.heap H locs) : PreS s H (va_Pc As (aw_K D g N0 L)) As :=
  ⟨fun a U gg mk q => ⟨q.1, q.2.1, aw_E.same (u := U) rfl q.2.2.1, aw_EC.same (s := U) rfl q.2.2.2.1, q.2.2.2.2⟩, fun U hH hW => ⟨rfl, ⟨by rw [hH]; exact hP, hD⟩, hE.warm hW, hC.warm hW, by rw [hH]; exact Nat.le_trans hN0 hS.1⟩⟩
theorem aw_asc {α : Type} (L0 T B X : List α) : (L0 ++ (T ++ B)) ++ X = L0 ++ (T ++ (B ++ X)) := by simp only [List.append_assoc]
theorem aw_bk {α : Type} (x0 x1 x2 : α) (B : List α) (y : α) (Y : List α) : ([x0, x1, x2] ++ (B ++ (y :: Y)))[3 + B.length]? = some y := by
  rw [Nat.add_comm]
  show (x0 :: x1 :: x2 :: (B ++ (y :: Y)))[B.length + 3]? = some y
  rw [List.getElem?_cons_succ, List.getElem?_cons_succ, List.getElem?_cons_succ, List.getElem?_append_right (Nat.le_refl _), Nat.sub_self]
  rfl
