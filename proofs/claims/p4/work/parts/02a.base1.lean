/-! Common rows: one list of words for every method (aw_G), what of the tables a run keeps (aw_E), contracts of methods that write nothing (aw_RI ..), their calls. -/
theorem aw_gi {y : Cond} (h : y ∈ aw_G) : GoodIn aw_G (y :: aw_G) := fun w hw => by
  have hm : w ∈ aw_G := (List.mem_cons.mp hw).elim (fun e => by rw [e]; exact h) id
  exact ⟨hm, good_of_word (List.all_eq_true.mp aw_good w hm)⟩
theorem aw_gl {ys : List Cond} {y : Cond} (h : ∀ w ∈ ys, w ∈ aw_G) (hy : y ∈ aw_G) : GoodIn aw_G (ys ++ (y :: aw_G)) := fun w hw => by
  rcases List.mem_append.mp hw with h1 | h1
  · exact ⟨h w h1, good_of_word (List.all_eq_true.mp aw_good w (h w h1))⟩
  · exact aw_gi hy w h1
theorem aw_l0 : ∀ w ∈ ([] : List Cond), w ∈ aw_G := fun _ h => nomatch h
theorem aw_lc {a : Cond} {l : List Cond} (h : a ∈ aw_G) (t : ∀ w ∈ l, w ∈ aw_G) : ∀ w ∈ a :: l, w ∈ aw_G := fun w hw => (List.mem_cons.mp hw).elim (fun e => by rw [e]; exact h) (t w)
/-- the words across the nest, and of abstract methods -/
def aw_N (U : State) : Prop := ∀ w ∈ aw_nest, va_Nw w U
def aw_nk : Cond → Bool
  | .fieldLinkNest .. => true
  | .methodLinkNest .. => true
  | .declares _ => true
  | .castable .. => true
  | _ => false
theorem aw_nest_k : aw_nest.all aw_nk = true := by decide +kernel
theorem aw_N.warm {s U : State} (hW : s.WarmedH U.vm) (h : aw_N s) : aw_N U := fun w hw => by
  have hk := List.all_eq_true.mp aw_nest_k w hw
  have h1 := h w hw
  cases w <;> first | exact va_Nw.warmF hW h1 | exact va_Nw.warmM hW h1 | exact va_Nw.warmD hW h1 | exact va_Nw.warmC hW h1 | (exact absurd hk (by simp [aw_nk]))
theorem aw_N.same {u U : State} (hv : u.vm = U.vm) (h : aw_N u) : aw_N U := fun w hw => by
  have hk := List.all_eq_true.mp aw_nest_k w hw
  have h1 := h w hw
  cases w <;> first | exact va_Nw.same rfl hv h1 | (exact absurd hk (by simp [aw_nk]))
/-- the classes of the arrays: int[], long[], Cipher[], Context[] -/
abbrev aw_T (g : Nat → ClassId) : List (ClassId × FieldType) := [(g 0, .int), (g 1, .long), (g 2, .object "RuleCiphers$Cipher"), (g 3, .object "RuleCiphers$Context")]
/-- exceptions that are no exceptions of another kind -/
def aw_NC (U : State) : Prop := ∀ q ∈ aw_ncs, va_Nc q.1 q.2 U
def aw_E (D : va_G) (g : Nat → ClassId) (U : State) : Prop := va_K D aw_C (aw_T g) U ∧ aw_N U ∧ aw_NC U
theorem aw_E.warm {D : va_G} {g : Nat → ClassId} {s U : State} (hW : s.WarmedH U.vm) (h : aw_E D g s) : aw_E D g U := ⟨va_K.moved hW.alike h.1, aw_N.warm hW h.2.1, fun q hq => (h.2.2 q hq).moved hW.alike⟩
theorem aw_E.same {D : va_G} {g : Nat → ClassId} {u U : State} (hv : u.vm = U.vm) (h : aw_E D g u) : aw_E D g U := ⟨va_K.moved (by rw [hv]; exact Vm.Alike.refl _) h.1, aw_N.same hv h.2.1, fun q hq => (h.2.2 q hq).moved (by rw [hv]; exact Vm.Alike.refl _)⟩
/-- an array of the class that the tables have -/
theorem aw_one {D : va_G} {cl : List vw_C} {tys : List (ClassId × FieldType)} {U : State} (h : va_K D cl tys U) {i j : Nat} {c d : ClassId} (hi : tys[i]? = some (c, .int)) (hj : tys[j]? = some (d, .int)) : c = d := by
  have h1 : U.vm.findClass ("[" ++ FieldType.int.toString) = some c := (h.2 i _ hi).2
  have h2 : U.vm.findClass ("[" ++ FieldType.int.toString) = some d := (h.2 j _ hj).2
  exact Option.some.inj (h1.symm.trans h2)
theorem aw_oneL {D : va_G} {cl : List vw_C} {tys : List (ClassId × FieldType)} {U : State} (h : va_K D cl tys U) {i j : Nat} {c d : ClassId} (hi : tys[i]? = some (c, .long)) (hj : tys[j]? = some (d, .long)) : c = d := by
  have h1 : U.vm.findClass ("[" ++ FieldType.long.toString) = some c := (h.2 i _ hi).2
  have h2 : U.vm.findClass ("[" ++ FieldType.long.toString) = some d := (h.2 j _ hj).2
  exact Option.some.inj (h1.symm.trans h2)
theorem aw_oneQ {D : va_G} {cl : List vw_C} {tys : List (ClassId × FieldType)} {U : State} {C : String} (h : va_K D cl tys U) {i j : Nat} {c d : ClassId} (hi : tys[i]? = some (c, .object C)) (hj : tys[j]? = some (d, .object C)) : c = d := by
  obtain ⟨_, _, _, _, _, h1⟩ := (h.2 i _ hi).2
  obtain ⟨_, _, _, _, _, h2⟩ := (h.2 j _ hj).2
  exact Option.some.inj (h1.symm.trans h2)
/-- what a method that writes nothing answers -/
def aw_RI (P : Int32 → Prop) : Array Value → State → Outcome → State → Prop := fun _ st o t => ∃ v : Int32, P v ∧ o = .returned (some (.int v)) ∧ t.heap = st.heap
def aw_RL (P : Int64 → Prop) : Array Value → State → Outcome → State → Prop := fun _ st o t => ∃ v : Int64, P v ∧ o = .returned (some (.long v)) ∧ t.heap = st.heap
def aw_RR (P : Nat → Prop) : Array Value → State → Outcome → State → Prop := fun _ st o t => ∃ v : Nat, P v ∧ o = .returned (some (.ref v)) ∧ t.heap = st.heap
def aw_RV : Array Value → State → Outcome → State → Prop := fun _ st o t => o = .returned none ∧ t.heap = st.heap
section AWC
variable {p : Program} {l : Launch} {e : Env} {R : Room} {s : State} {m : MethodId} {args : Array Value} {below : List Frame} {meth : Method} {c : Code} {H : Heap} {locs : List Loc} {cells slots : Nat} {Q : State → Prop} {a : Array Value} {pc : Nat} {ls : Array Slot} {st0 rest : List Value}
theorem aw_ci {P : Int32 → Prop} (hr : CallRun p l e R s m args below meth c H locs cells slots 0 0 (F0 m pc ls st0) rest (aw_RI P a) (fun _ => False)) (kk : ∀ z : Int32, P z → W p l e R s m args below meth c H locs cells slots Q (F0 m (pc + 3) ls (.int z :: rest))) : W p l e R s m args below meth c H locs cells slots Q (F0 m pc ls st0) := by
  intro T hT X
  obtain ⟨v, st₀, t, T', L, h0, X', hL, e1, ⟨z, hz, hv, hh⟩, st⟩ := hr T hT X
  cases hv
  obtain ⟨t2, a1, b1⟩ := kk z hz T' (by rw [e1, hh, h0]) (Stand.forget X' (fun q h => (hL q h).elim))
  exact ⟨t2, st t2 a1, b1⟩
theorem aw_cl {P : Int64 → Prop} (hr : CallRun p l e R s m args below meth c H locs cells slots 0 0 (F0 m pc ls st0) rest (aw_RL P a) (fun _ => False)) (kk : ∀ z : Int64, P z → W p l e R s m args below meth c H locs cells slots Q (F0 m (pc + 3) ls (.long z :: rest))) : W p l e R s m args below meth c H locs cells slots Q (F0 m pc ls st0) := by
  intro T hT X
  obtain ⟨v, st₀, t, T', L, h0, X', hL, e1, ⟨z, hz, hv, hh⟩, st⟩ := hr T hT X
  cases hv
  obtain ⟨t2, a1, b1⟩ := kk z hz T' (by rw [e1, hh, h0]) (Stand.forget X' (fun q h => (hL q h).elim))
  exact ⟨t2, st t2 a1, b1⟩
theorem aw_cr {P : Nat → Prop} (hr : CallRun p l e R s m args below meth c H locs cells slots 0 0 (F0 m pc ls st0) rest (aw_RR P a) (fun _ => False)) (kk : ∀ z : Nat, P z → W p l e R s m args below meth c H locs cells slots Q (F0 m (pc + 3) ls (.ref z :: rest))) : W p l e R s m args below meth c H locs cells slots Q (F0 m pc ls st0) := by
  intro T hT X
  obtain ⟨v, st₀, t, T', L, h0, X', hL, e1, ⟨z, hz, hv, hh⟩, st⟩ := hr T hT X
  cases hv
  obtain ⟨t2, a1, b1⟩ := kk z hz T' (by rw [e1, hh, h0]) (Stand.forget X' (fun q h => (hL q h).elim))
  exact ⟨t2, st t2 a1, b1⟩
theorem aw_cv (hr : CallRun p l e R s m args below meth c H locs cells slots 0 0 (F0 m pc ls st0) rest (aw_RV a) (fun _ => False)) (kk : W p l e R s m args below meth c H locs cells slots Q (F0 m (pc + 3) ls rest)) : W p l e R s m args below meth c H locs cells slots Q (F0 m pc ls st0) := by
  intro T hT X
  obtain ⟨v, st₀, t, T', L, h0, X', hL, e1, ⟨hv, hh⟩, st⟩ := hr T hT X
  cases hv
  obtain ⟨t2, a1, b1⟩ := kk T' (by rw [e1, hh, h0]) (Stand.forget X' (fun q h => (hL q h).elim))
  exact ⟨t2, st t2 a1, b1⟩
/-- another name for the int on top -/
theorem aw_ti {x y : Int32} (h : x = y) (k : W p l e R s m args below meth c H locs cells slots Q (F0 m pc ls (.int y :: rest))) : W p l e R s m args below meth c H locs cells slots Q (F0 m pc ls (.int x :: rest)) := by rw [h]; exact k
theorem aw_tl {x y : Int64} (h : x = y) (k : W p l e R s m args below meth c H locs cells slots Q (F0 m pc ls (.long y :: rest))) : W p l e R s m args below meth c H locs cells slots Q (F0 m pc ls (.long x :: rest)) := by rw [h]; exact k
theorem aw_tv {x y : Value} (h : x = y) (k : W p l e R s m args below meth c H locs cells slots Q (F0 m pc ls (y :: rest))) : W p l e R s m args below meth c H locs cells slots Q (F0 m pc ls (x :: rest)) := by rw [h]; exact k
variable {cc : ByteArray} {D : va_G} {cl : List vw_C} {A : Nat → Prop} {b : Nat} {tys : List (ClassId × FieldType)} {ws : va_W} {H0 : Heap}
theorem aw_ild (hexec : p.tables.exec = Jvm.exec) (hb : c.code = cc) (hK : va_K D cl tys s) (hP : va_P D cl ws H) (q0 t0 : Nat) {cA : ClassId} {n : Nat} {f : Nat → Int32} (ha : ws[q0]? = some (b, .inl (cA, n, .inl f))) (ht : tys[t0]? = some (cA, .int)) {k : Nat} (hk : k < n) (hn : n < 2 ^ 31) (hdg : decode cc pc = .ok (.iaload, 1))
    (kk : W p l e R s m args below meth c H locs cells slots Q (F0 m (pc + 1) ls (.int (f k) :: rest))) : W p l e R s m args below meth c H locs cells slots Q (F0 m pc ls (.int (nI k) :: .ref b :: rest)) :=
  va_iald hexec hb hK hP q0 t0 ha ht (nI_in hk hn) hdg (by rw [nI_clamp (Nat.lt_trans hk hn)]; exact kk)
theorem aw_lld (hexec : p.tables.exec = Jvm.exec) (hb : c.code = cc) (hK : va_K D cl tys s) (hP : va_P D cl ws H) (q0 t0 : Nat) {cA : ClassId} {n : Nat} {f : Nat → Int64} (ha : ws[q0]? = some (b, .inl (cA, n, .inr (.inl f)))) (ht : tys[t0]? = some (cA, .long)) {k : Nat} (hk : k < n) (hn : n < 2 ^ 31) (hdg : decode cc pc = .ok (.laload, 1))
    (kk : W p l e R s m args below meth c H locs cells slots Q (F0 m (pc + 1) ls (.long (f k) :: rest))) : W p l e R s m args below meth c H locs cells slots Q (F0 m pc ls (.int (nI k) :: .ref b :: rest)) :=
  va_lald hexec hb hK hP q0 t0 ha ht (nI_in hk hn) hdg (by rw [nI_clamp (Nat.lt_trans hk hn)]; exact kk)
theorem aw_ald (hexec : p.tables.exec = Jvm.exec) (hb : c.code = cc) (hK : va_K D cl tys s) (hP : va_P D cl ws H) (q0 t0 : Nat) {cA : ClassId} {C : String} {n : Nat} {f : Nat → Option Nat} (ha : ws[q0]? = some (b, .inl (cA, n, .inr (.inr (.inr (.inr f)))))) (ht : tys[t0]? = some (cA, .object C)) {k : Nat} (hk : k < n) (hn : n < 2 ^ 31) {r : Nat} (hf : f k = some r) (hdg : decode cc pc = .ok (.aaload, 1))
    (kk : W p l e R s m args below meth c H locs cells slots Q (F0 m (pc + 1) ls (.ref r :: rest))) : W p l e R s m args below meth c H locs cells slots Q (F0 m pc ls (.int (nI k) :: .ref b :: rest)) :=
  va_aldq hexec hb hK hP q0 t0 ha ht (nI_in hk hn) hdg (by rw [nI_clamp (Nat.lt_trans hk hn), hf]; exact kk)
theorem aw_ist (hexec : p.tables.exec = Jvm.exec) (hb : c.code = cc) (hK : va_K D cl tys s) (hP : va_P D cl ws H) (hD : va_D A ws) (hS : va_S A H0 H locs) (q0 t0 : Nat) {cA : ClassId} {n : Nat} {f : Nat → Int32} (ha : ws[q0]? = some (b, .inl (cA, n, .inl f))) (ht : tys[t0]? = some (cA, .int)) {k : Nat} {x : Int32} (hk : k < n) (hn : n < 2 ^ 31) (hdg : decode cc pc = .ok (.iastore, 1))
    (kk : ∀ (H1 : Heap) (locs1 : List Loc), va_P D cl (ws.set q0 (b, .inl (cA, n, .inl (upd f k x)))) H1 → va_D A (ws.set q0 (b, .inl (cA, n, .inl (upd f k x)))) → va_S A H0 H1 locs1 → W p l e R s m args below meth c H1 locs1 cells slots Q (F0 m (pc + 1) ls rest)) : W p l e R s m args below meth c H locs cells slots Q (F0 m pc ls (.int x :: .int (nI k) :: .ref b :: rest)) :=
  va_iast hexec hb hK hP hD hS q0 t0 ha ht (nI_in hk hn) hdg (by rw [nI_clamp (Nat.lt_trans hk hn)]; exact kk)
theorem aw_lst (hexec : p.tables.exec = Jvm.exec) (hb : c.code = cc) (hK : va_K D cl tys s) (hP : va_P D cl ws H) (hD : va_D A ws) (hS : va_S A H0 H locs) (q0 t0 : Nat) {cA : ClassId} {n : Nat} {f : Nat → Int64} (ha : ws[q0]? = some (b, .inl (cA, n, .inr (.inl f)))) (ht : tys[t0]? = some (cA, .long)) {k : Nat} {x : Int64} (hk : k < n) (hn : n < 2 ^ 31) (hdg : decode cc pc = .ok (.lastore, 1))
    (kk : ∀ (H1 : Heap) (locs1 : List Loc), va_P D cl (ws.set q0 (b, .inl (cA, n, .inr (.inl (vp_updL f k x))))) H1 → va_D A (ws.set q0 (b, .inl (cA, n, .inr (.inl (vp_updL f k x))))) → va_S A H0 H1 locs1 → W p l e R s m args below meth c H1 locs1 cells slots Q (F0 m (pc + 1) ls rest)) : W p l e R s m args below meth c H locs cells slots Q (F0 m pc ls (.long x :: .int (nI k) :: .ref b :: rest)) :=
  va_last hexec hb hK hP hD hS q0 t0 ha ht (nI_in hk hn) hdg (by rw [nI_clamp (Nat.lt_trans hk hn)]; exact kk)
/-- the calls' words: a private static method of the nest; a static one of the own class; a method of the receiver's class; an inherited one; an abstract one; a constructor -/
theorem aw_wSN {own host : String} {index maxL : Nat} {y : MethodName} {bytes : ByteArray} {ret : Option FieldType} {rm : Room} (n : Nat) {mc ms : Nat} (hG : ∀ w ∈ aw_G, w.before args s = true) (hN : aw_N s) (hcode : Cond.code y bytes maxL ret ∈ aw_G) (hlink : Cond.methodLinkNest own index y host ∈ aw_nest) (hini : Cond.initialized y.cls ∈ aw_G) (hst : Cond.static y ∈ aw_G) (hrc : rm.cells = mc) (hrs : rm.slots = ms)
    (hd : y.cls ≠ "java/lang/invoke/MethodHandle" ∧ y.cls ≠ "java/lang/invoke/VarHandle" ∧ (parseMethodDescriptor y.desc).map (fun d => d.parameters.length) = some n) (hR : rm.frames + 1 ≤ R.frames ∧ 8 + (maxL + 11) + rm.locals ≤ R.locals) :
    va_CN R s args own index y host bytes maxL ret (Cond.code y bytes maxL ret :: aw_G) rm mc ms n ∧ (Cond.static y).before args s = true ∧ True :=
  ⟨va_cnB n hG (aw_gi hcode) rfl hrc hrs (hN _ hlink) (hG _ hini) hd hR, hG _ hst, trivial⟩
theorem aw_wS {own : String} {index maxL : Nat} {y : MethodName} {bytes : ByteArray} {ret : Option FieldType} {rm : Room} (n : Nat) {mc ms : Nat} (hG : ∀ w ∈ aw_G, w.before args s = true) (hcode : Cond.code y bytes maxL ret ∈ aw_G) (hlink : Cond.methodLink own index y ∈ aw_G) (hini : Cond.initialized y.cls ∈ aw_G) (hst : Cond.static y ∈ aw_G) (hrc : rm.cells = mc) (hrs : rm.slots = ms)
    (hd : y.cls ≠ "java/lang/invoke/MethodHandle" ∧ y.cls ≠ "java/lang/invoke/VarHandle" ∧ (parseMethodDescriptor y.desc).map (fun d => d.parameters.length) = some n) (hR : rm.frames + 1 ≤ R.frames ∧ 8 + (maxL + 11) + rm.locals ≤ R.locals) :
    CallB R s args own index y bytes maxL ret (Cond.code y bytes maxL ret :: aw_G) rm mc ms n ∧ (Cond.static y).before args s = true :=
  ⟨callB_of n hG (aw_gi hcode) rfl hrc hrs (hG _ hini) (hG _ hlink) hd hR, hG _ hst⟩
theorem aw_wV {own C : String} {index maxL : Nat} {y : MethodName} {bytes : ByteArray} {ret : Option FieldType} {rm : Room} (n : Nat) {mc ms : Nat} (hG : ∀ w ∈ aw_G, w.before args s = true) (hcode : Cond.code y bytes maxL ret ∈ aw_G) (hlink : Cond.methodLink own index y ∈ aw_G) (hini : Cond.initialized y.cls ∈ aw_G) (hin : Cond.instanceMethod y ∈ aw_G) (hsel : Cond.selects C y y ∈ aw_G) (hrc : rm.cells = mc) (hrs : rm.slots = ms)
    (hd : y.cls ≠ "java/lang/invoke/MethodHandle" ∧ y.cls ≠ "java/lang/invoke/VarHandle" ∧ (parseMethodDescriptor y.desc).map (fun d => d.parameters.length) = some n) (hR : rm.frames + 1 ≤ R.frames ∧ 8 + (maxL + 11) + rm.locals ≤ R.locals) :
    CallW R s args own C index y bytes maxL ret (Cond.code y bytes maxL ret :: aw_G) rm mc ms n :=
  ⟨callB_of n hG (aw_gi hcode) rfl hrc hrs (hG _ hini) (hG _ hlink) hd hR, hG _ hin, hG _ hsel⟩
theorem aw_wU {own C owner : String} {index maxL : Nat} {x y : MethodName} {bytes : ByteArray} {ret : Option FieldType} {rm : Room} (n : Nat) {mc ms : Nat} (hG : ∀ w ∈ aw_G, w.before args s = true) (hcode : Cond.code y bytes maxL ret ∈ aw_G) (hlink : Cond.methodLink own index x ∈ aw_G) (hsame : Cond.sameMethod x.cls owner x.name x.desc ∈ aw_G) (hsel : Cond.selects C x y ∈ aw_G) (hin : Cond.instanceMethod y ∈ aw_G) (hini : Cond.initialized y.cls ∈ aw_G) (hrc : rm.cells = mc) (hrs : rm.slots = ms)
    (hyx : y = ⟨owner, x.name, x.desc⟩) (hd : owner ≠ "java/lang/invoke/MethodHandle" ∧ owner ≠ "java/lang/invoke/VarHandle" ∧ (parseMethodDescriptor x.desc).map (fun d => d.parameters.length) = some n) (hR : rm.frames + 1 ≤ R.frames ∧ 8 + (maxL + 11) + rm.locals ≤ R.locals) :
    va_CU R s args own C owner index x y bytes maxL ret (Cond.code y bytes maxL ret :: aw_G) rm mc ms n :=
  va_cwU n hG (aw_gl (aw_lc hlink (aw_lc hsame (aw_lc hsel (aw_lc hin (aw_lc hini aw_l0))))) hcode) rfl hrc hrs hyx hd hR
theorem aw_wA {own C owner : String} {index maxL : Nat} {x y : MethodName} {bytes : ByteArray} {ret : Option FieldType} {rm : Room} (n : Nat) {mc ms : Nat} (hG : ∀ w ∈ aw_G, w.before args s = true) (hN : aw_N s) (hcode : Cond.code y bytes maxL ret ∈ aw_G) (hlink : Cond.methodLink own index x ∈ aw_G) (hsame : Cond.sameMethod x.cls owner x.name x.desc ∈ aw_G) (hsel : Cond.selects C x y ∈ aw_G) (hin : Cond.instanceMethod y ∈ aw_G) (hini : Cond.initialized y.cls ∈ aw_G) (hz : Cond.declares ⟨owner, x.name, x.desc⟩ ∈ aw_nest) (hrc : rm.cells = mc) (hrs : rm.slots = ms)
    (hd : owner ≠ "java/lang/invoke/MethodHandle" ∧ owner ≠ "java/lang/invoke/VarHandle" ∧ (parseMethodDescriptor x.desc).map (fun d => d.parameters.length) = some n) (hR : rm.frames + 1 ≤ R.frames ∧ 8 + (maxL + 11) + rm.locals ≤ R.locals) :
    va_CU R s args own C owner index x y bytes maxL ret (Cond.code y bytes maxL ret :: aw_G) rm mc ms n :=
  va_cwA n hG (aw_gl (aw_lc hlink (aw_lc hsame (aw_lc hsel (aw_lc hin (aw_lc hini aw_l0))))) hcode) rfl hrc hrs (hN _ hz) hd hR
theorem aw_wI {own : String} {index maxL : Nat} {y : MethodName} {bytes : ByteArray} {rm : Room} (n : Nat) {mc ms : Nat} (hG : ∀ w ∈ aw_G, w.before args s = true) (hcode : Cond.code y bytes maxL none ∈ aw_G) (hlink : Cond.methodLink own index y ∈ aw_G) (hini : Cond.initialized y.cls ∈ aw_G) (hin : Cond.instanceMethod y ∈ aw_G) (hy : y.name = "<init>") (hrc : rm.cells = mc) (hrs : rm.slots = ms)
    (hd : y.cls ≠ "java/lang/invoke/MethodHandle" ∧ y.cls ≠ "java/lang/invoke/VarHandle" ∧ (parseMethodDescriptor y.desc).map (fun d => d.parameters.length) = some n) (hR : rm.frames + 1 ≤ R.frames ∧ 8 + (maxL + 11) + rm.locals ≤ R.locals) :
    CallB R s args own index y bytes maxL none (Cond.code y bytes maxL none :: aw_G) rm mc ms n ∧ y.name = "<init>" ∧ (Cond.instanceMethod y).before args s = true :=
  ⟨callB_of n hG (aw_gi hcode) rfl hrc hrs (hG _ hini) (hG _ hlink) hd hR, hy, hG _ hin⟩
theorem aw_wIN {own host : String} {index maxL : Nat} {y : MethodName} {bytes : ByteArray} {rm : Room} (n : Nat) {mc ms : Nat} (hG : ∀ w ∈ aw_G, w.before args s = true) (hN : aw_N s) (hcode : Cond.code y bytes maxL none ∈ aw_G) (hlink : Cond.methodLinkNest own index y host ∈ aw_nest) (hini : Cond.initialized y.cls ∈ aw_G) (hin : Cond.instanceMethod y ∈ aw_G) (hy : y.name = "<init>") (hrc : rm.cells = mc) (hrs : rm.slots = ms)
    (hd : y.cls ≠ "java/lang/invoke/MethodHandle" ∧ y.cls ≠ "java/lang/invoke/VarHandle" ∧ (parseMethodDescriptor y.desc).map (fun d => d.parameters.length) = some n) (hR : rm.frames + 1 ≤ R.frames ∧ 8 + (maxL + 11) + rm.locals ≤ R.locals) :
    va_CN R s args own index y host bytes maxL none (Cond.code y bytes maxL none :: aw_G) rm mc ms n ∧ y.name = "<init>" ∧ (Cond.instanceMethod y).before args s = true :=
  ⟨va_cnB n hG (aw_gi hcode) rfl hrc hrs (hN _ hlink) (hG _ hini) hd hR, hy, hG _ hin⟩
/-- what a call of a method that writes nothing asks: the arguments alone; or a world and the tables too -/
theorem aw_p0 {As : List Value} : PreS s H (va_Pc As (fun _ => True)) As := ⟨fun _ _ _ _ q => q, fun _ _ _ => ⟨rfl, trivial⟩⟩
theorem aw_p0V {As : List Value} {C : String} {o : Nat} (hc : ∃ cellB : Cell, H[o]? = some cellB ∧ cellB.vm.isStatics = false ∧ s.vm.findClass C = some cellB.cls) : PreV s H C o (va_Pc (.ref o :: As) (fun _ => True)) As := ⟨fun _ _ _ _ q => q, hc, fun _ _ _ => ⟨rfl, trivial⟩⟩
/-- the receiver: an object of the world -/
theorem aw_rc {o ci : Nat} {fs : List Value} {r : vw_C} (hK : va_K D cl tys s) (hP : va_P D cl ws H) (q0 : Nat) (he : ws[q0]? = some (o, .inr (ci, fs))) (hc : cl[ci]? = some r) : ∃ cellB : Cell, H[o]? = some cellB ∧ cellB.vm.isStatics = false ∧ s.vm.findClass r.1 = some cellB.cls := va_recv hK hP hc he
end AWC
/-- counters that go down to -1 -/
def aw_dn : Nat → Int32
  | 0 => -1
  | k + 1 => nI k
theorem aw_dn_s (k : Nat) : nI k + (-1) = aw_dn k := by
  cases k with
  | zero => decide
  | succ n => exact pk_m1 n
