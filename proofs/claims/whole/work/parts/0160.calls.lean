/-! contracts over such a world, and calls of them -/
def gWH (dm : WDM) (cf : WCF) (D : va_G) (cy : Nat → ClassId) (ad : AD) (A : Nat → Prop) (μ : MM) (H : Heap) : Prop :=
  (∀ (k : Nat) (i : Int), dm k (μ k) i → va_at D vwCl (ad k i, cf cy ad k (μ k) i) H) ∧ (∀ (k : Nat) (i : Int) (k' : Nat) (i' : Int), dm k (μ k) i → dm k' (μ k') i' → ad k i = ad k' i' → k = k' ∧ i = i') ∧ ∀ (k : Nat) (i : Int), dm k (μ k) i → A (ad k i)
theorem gwd.toH {dm : WDM} {cf : WCF} {ty : WTY} {ex : State → Prop} {D : va_G} {cy : Nat → ClassId} {ad : AD} {A : Nat → Prop} {μ : MM} {s : State} {H : Heap} (h : gwd dm cf ty ex D cy ad A μ s H) : gWH dm cf D cy ad A μ H := ⟨h.1, h.2.2⟩
theorem gwd.ofH {dm : WDM} {cf : WCF} {ty : WTY} {ex : State → Prop} {D : va_G} {cy : Nat → ClassId} {ad : AD} {A : Nat → Prop} {μ μ' : MM} {s : State} {H H' : Heap} (h : gwd dm cf ty ex D cy ad A μ s H) (h' : gWH dm cf D cy ad A μ' H') : gwd dm cf ty ex D cy ad A μ' s H' := ⟨h'.1, h.2.1, h'.2⟩
def EX (ex : State → Prop) : Prop := ∀ (a b : State), a.WarmedH b.vm → ex a → ex b
def wPc (av : List Value) (dm : WDM) (cf : WCF) (ty : WTY) (ex : State → Prop) (D : va_G) (cy : Nat → ClassId) (ad : AD) (A : Nat → Prop) (μ : MM) : Array Value → State → Prop := va_Pc av (fun U => (∀ q : Nat, U.heap.size ≤ q → A q) ∧ gwd dm cf ty ex D cy ad A μ U U.heap)
def wQ (vf : Int → Option Value) (K : Int → MM → Prop) (dm : WDM) (cf : WCF) (D : va_G) (cy : Nat → ClassId) (ad : AD) (A : Nat → Prop) : Array Value → State → Outcome → State → Prop := fun _ st oc t => (∃ (v : Int) (u : MM), oc = .returned (vf v) ∧ K v u ∧ gWH dm cf D cy ad A u t.heap) ∧ va_F A st t
def vI (v : Int) : Option Value := some (.int (iI v))
def vL (v : Int) : Option Value := some (.long (lJ v))
def vV (_ : Int) : Option Value := none
def vR (ad : AD) (k : Nat) (v : Int) : Option Value := some (rf ad k v)
theorem wPc_blind {av : List Value} {dm : WDM} {cf : WCF} {ty : WTY} {ex : State → Prop} (hex : EX ex) {D : va_G} {cy : Nat → ClassId} {ad : AD} {A : Nat → Prop} {μ : MM} : FrameBlind (wPc av dm cf ty ex D cy ad A μ) := by
  intro a U g mk h
  obtain ⟨h0, h1, h2, h3, h4⟩ := h
  exact ⟨h0, h1, h2, ⟨va_K.moved (u := U) (U := U.calling g mk a) (Vm.Alike.refl U.vm) h3.1, hex _ _ (State.WarmedH.refl U) h3.2⟩, h4⟩
theorem gwd.enter {dm : WDM} {cf : WCF} {ty : WTY} {ex : State → Prop} (hex : EX ex) {D : va_G} {cy : Nat → ClassId} {ad : AD} {A : Nat → Prop} {μ : MM} {s U : State} {H : Heap} (hW : s.WarmedH U.vm) (h : gwd dm cf ty ex D cy ad A μ s H) : gwd dm cf ty ex D cy ad A μ U H := ⟨h.1, ⟨va_K.moved hW.alike h.2.1.1, hex _ _ hW h.2.1.2⟩, h.2.2⟩
theorem uw_GoodIn {y : MethodName} {b : ByteArray} {n : Nat} {r : Option FieldType} (h : Cond.code y b n r ∈ uw) : GoodIn uw (Cond.code y b n r :: uw) := by
  intro w hw
  rcases List.mem_cons.mp hw with rfl | hw
  · exact ⟨h, uw_good h⟩
  · exact ⟨hw, uw_good hw⟩
abbrev rmm (f l : Nat) : Room := { frames := f, cells := 0, slots := 0, locals := l }
section
variable {p : Program} {l : Launch} {e : Env} {R : Room} {s : State} {m : MethodId} {args : Array Value} {below : List Frame} {meth : Method} {c : Code} {H : Heap} {locs : List Loc} {Q : State → Prop} {cc : ByteArray} {pc nL : Nat} {ls : Array Slot} {rest : List Value} {own : String}
variable {dm : WDM} {cf : WCF} {ty : WTY} {ex : State → Prop} {D : va_G} {cy : Nat → ClassId} {ad : AD} {A : Nat → Prop} {μ : MM}
variable {y x : MethodName} {bytes : ByteArray} {maxL idx n fr lo : Nat} {rt : Option FieldType} {C owner : String}
theorem cbU (F : CallFix p m c cc nL s args uw own) (n : Nat) (hcode : Cond.code y bytes maxL rt ∈ uw) (hini : Cond.initialized y.cls ∈ uw) (hl : Cond.methodLink own idx y ∈ uw) (hd : y.cls ≠ "java/lang/invoke/MethodHandle" ∧ y.cls ≠ "java/lang/invoke/VarHandle" ∧ (parseMethodDescriptor y.desc).map (fun d => d.parameters.length) = some n) (hR : fr + 1 ≤ R.frames ∧ 8 + (maxL + 11) + lo ≤ R.locals) : CallB R s args own idx y bytes maxL rt (Cond.code y bytes maxL rt :: uw) (rmm fr lo) 0 0 n :=
  callB_of n F.2.2.2.2 (uw_GoodIn hcode) rfl rfl rfl (F.2.2.2.2 _ hini) (F.2.2.2.2 _ hl) hd hR
/-- what comes behind a call -/
theorem call_any {vf : Int → Option Value} {K : Int → MM → Prop} {a : Array Value} {st0 : List Value} (hr : va_Run p l e R s m args below meth c H locs 0 0 0 0 (F0 m pc ls st0) rest (wQ vf K dm cf D cy ad A a) A) (hw : gwd dm cf ty ex D cy ad A μ s H) (hS : va_S A s.heap H locs)
    (kk : ∀ (v : Int) (u : MM) (H1 : Heap) (locs1 : List Loc), K v u → gwd dm cf ty ex D cy ad A u s H1 → va_S A s.heap H1 locs1 → W p l e R s m args below meth c H1 locs1 0 0 Q (F0 m (pc + 3) ls ((vf v).toList ++ rest))) : W p l e R s m args below meth c H locs 0 0 Q (F0 m pc ls st0) := by
  intro T hT X
  obtain ⟨v, st₀, t, T', L, h0, X', hL, e1, e2, ⟨⟨r, u, hv, hp, hb⟩, hz, hk⟩, st⟩ := hr T hT X
  cases hv
  rw [h0] at hz hk
  have hS1 : va_S A s.heap T'.heap (locs ++ L) := ⟨Nat.le_trans hS.1 (by rw [e1]; exact hz), fun q h1 h2 => by rw [e1, hk q (Nat.lt_of_lt_of_le h1 hS.1) h2]; exact hS.2.1 q h1 h2, fun q hq => by
      rcases List.mem_append.mp hq with h | h
      · exact hS.2.2 q h
      · exact hL q h⟩
  obtain ⟨t2, a1, b1⟩ := kk r u T'.heap (locs ++ L) hp (hw.ofH (by rw [e1]; exact hb)) hS1 T' rfl X'
  exact ⟨t2, st t2 a1, b1⟩
theorem call_S {vf : Int → Option Value} {K : Int → MM → Prop} {As : List Value} (hex : EX ex) (F : CallFix p m c cc nL s args uw own) (hM : Met l y (Cond.code y bytes maxL rt :: uw) (rmm fr lo) (wPc As dm cf ty ex D cy ad A μ) (wQ vf K dm cf D cy ad A) 0 0 A) (n : Nat) (hcode : Cond.code y bytes maxL rt ∈ uw) (hini : Cond.initialized y.cls ∈ uw) (hst : Cond.static y ∈ uw) (hl : Cond.methodLink own idx y ∈ uw) (hd : y.cls ≠ "java/lang/invoke/MethodHandle" ∧ y.cls ≠ "java/lang/invoke/VarHandle" ∧ (parseMethodDescriptor y.desc).map (fun d => d.parameters.length) = some n) (hR : fr + 1 ≤ R.frames ∧ 8 + (maxL + 11) + lo ≤ R.locals)
    (hA : ∀ q : Nat, s.heap.size ≤ q → A q) (hw : gwd dm cf ty ex D cy ad A μ s H) (hS : va_S A s.heap H locs) {st0 : List Value} (hlen : As.length = n) (hsz : ls.size = nL) (hst0 : st0 = As.reverse ++ rest) (hrm : (rest.map fun v => v.category).sum ≤ 8) (hdg : decode cc pc = .ok (.invokestatic idx, 3))
    (kk : ∀ (v : Int) (u : MM) (H1 : Heap) (locs1 : List Loc), K v u → gwd dm cf ty ex D cy ad A u s H1 → va_S A s.heap H1 locs1 → W p l e R s m args below meth c H1 locs1 0 0 Q (F0 m (pc + 3) ls ((vf v).toList ++ rest))) : W p l e R s m args below meth c H locs 0 0 Q (F0 m pc ls st0) :=
  call_any (va_runS F hM ⟨cbU F n hcode hini hl hd hR, F.2.2.2.2 _ hst⟩ ⟨wPc_blind hex, fun U hU hW => ⟨rfl, fun q h => hA q (Nat.le_trans hS.1 (by rw [← hU]; exact h)), by rw [hU]; exact hw.enter hex hW⟩⟩ rfl hlen hsz hst0 (lv_room (m := m) (pc := pc) (ls := ls) (rest := st0) hrm) hdg ⟨Nat.zero_le _, Nat.zero_le _⟩) hw hS kk
theorem call_SN {vf : Int → Option Value} {K : Int → MM → Prop} {As : List Value} {host : String} (hex : EX ex) (F : CallFix p m c cc nL s args uw own) (hM : Met l y (Cond.code y bytes maxL rt :: uw) (rmm fr lo) (wPc As dm cf ty ex D cy ad A μ) (wQ vf K dm cf D cy ad A) 0 0 A) (n : Nat) (hcode : Cond.code y bytes maxL rt ∈ uw) (hini : Cond.initialized y.cls ∈ uw) (hst : Cond.static y ∈ uw) (hl : va_Nw (.methodLinkNest own idx y host) s) (hd : y.cls ≠ "java/lang/invoke/MethodHandle" ∧ y.cls ≠ "java/lang/invoke/VarHandle" ∧ (parseMethodDescriptor y.desc).map (fun d => d.parameters.length) = some n) (hR : fr + 1 ≤ R.frames ∧ 8 + (maxL + 11) + lo ≤ R.locals)
    (hA : ∀ q : Nat, s.heap.size ≤ q → A q) (hw : gwd dm cf ty ex D cy ad A μ s H) (hS : va_S A s.heap H locs) {st0 : List Value} (hlen : As.length = n) (hsz : ls.size = nL) (hst0 : st0 = As.reverse ++ rest) (hrm : (rest.map fun v => v.category).sum ≤ 8) (hdg : decode cc pc = .ok (.invokestatic idx, 3))
    (kk : ∀ (v : Int) (u : MM) (H1 : Heap) (locs1 : List Loc), K v u → gwd dm cf ty ex D cy ad A u s H1 → va_S A s.heap H1 locs1 → W p l e R s m args below meth c H1 locs1 0 0 Q (F0 m (pc + 3) ls ((vf v).toList ++ rest))) : W p l e R s m args below meth c H locs 0 0 Q (F0 m pc ls st0) :=
  call_any (va_runSN F hM ⟨va_cnB n F.2.2.2.2 (uw_GoodIn hcode) rfl rfl rfl hl (F.2.2.2.2 _ hini) hd hR, F.2.2.2.2 _ hst, trivial⟩ ⟨wPc_blind hex, fun U hU hW => ⟨rfl, fun q h => hA q (Nat.le_trans hS.1 (by rw [← hU]; exact h)), by rw [hU]; exact hw.enter hex hW⟩⟩ rfl hlen hsz hst0 (lv_room (m := m) (pc := pc) (ls := ls) (rest := st0) hrm) hdg ⟨Nat.zero_le _, Nat.zero_le _⟩) hw hS kk
theorem gwd.recv (hw : gwd dm cf ty ex D cy ad A μ s H) {k : Nat} {i : Int} (hd : dm k (μ k) i) {ci Nf : Nat} {T : u_T} {fs : List Value} (hcf : cf cy ad k (μ k) i = .inr (ci, fs)) (hcl : vwCl[ci]? = some (C, T, Nf)) : ∃ cell : Cell, H[ad k i]? = some cell ∧ cell.vm.isStatics = false ∧ s.vm.findClass C = some cell.cls := by
  have h := hw.1 k i hd
  rw [hcf] at h
  exact va_recv hw.2.1.1 (va_P1 h) hcl (q0 := 0) rfl
theorem call_V {vf : Int → Option Value} {K : Int → MM → Prop} {As : List Value} {b : Nat} (hex : EX ex) (F : CallFix p m c cc nL s args uw own) (hM : Met l y (Cond.code y bytes maxL rt :: uw) (rmm fr lo) (wPc (.ref b :: As) dm cf ty ex D cy ad A μ) (wQ vf K dm cf D cy ad A) 0 0 A) (n : Nat) (hcode : Cond.code y bytes maxL rt ∈ uw) (hini : Cond.initialized y.cls ∈ uw) (hst : Cond.instanceMethod y ∈ uw) (hsel : Cond.selects y.cls y y ∈ uw) (hl : Cond.methodLink own idx y ∈ uw) (hd : y.cls ≠ "java/lang/invoke/MethodHandle" ∧ y.cls ≠ "java/lang/invoke/VarHandle" ∧ (parseMethodDescriptor y.desc).map (fun d => d.parameters.length) = some n) (hR : fr + 1 ≤ R.frames ∧ 8 + (maxL + 11) + lo ≤ R.locals)
    (hrc : ∃ cell : Cell, H[b]? = some cell ∧ cell.vm.isStatics = false ∧ s.vm.findClass y.cls = some cell.cls)
    (hA : ∀ q : Nat, s.heap.size ≤ q → A q) (hw : gwd dm cf ty ex D cy ad A μ s H) (hS : va_S A s.heap H locs) {st0 : List Value} (hlen : As.length = n) (hsz : ls.size = nL) (hst0 : st0 = As.reverse ++ .ref b :: rest) (hrm : (rest.map fun v => v.category).sum ≤ 8) (hdg : decode cc pc = .ok (.invokevirtual idx, 3))
    (kk : ∀ (v : Int) (u : MM) (H1 : Heap) (locs1 : List Loc), K v u → gwd dm cf ty ex D cy ad A u s H1 → va_S A s.heap H1 locs1 → W p l e R s m args below meth c H1 locs1 0 0 Q (F0 m (pc + 3) ls ((vf v).toList ++ rest))) : W p l e R s m args below meth c H locs 0 0 Q (F0 m pc ls st0) :=
  call_any (va_runV (C := y.cls) F hM ⟨cbU F n hcode hini hl hd hR, F.2.2.2.2 _ hst, F.2.2.2.2 _ hsel⟩ ⟨wPc_blind hex, hrc, fun U hU hW => ⟨rfl, fun q h => hA q (Nat.le_trans hS.1 (by rw [← hU]; exact h)), by rw [hU]; exact hw.enter hex hW⟩⟩ rfl hlen hsz hst0 (lv_room (m := m) (pc := pc) (ls := ls) (rest := st0) hrm) hdg ⟨Nat.zero_le _, Nat.zero_le _⟩) hw hS kk
/-- a method that is named x (of owner) and selected as y by the receiver's class C -/
theorem call_U {vf : Int → Option Value} {K : Int → MM → Prop} {As : List Value} {b : Nat} {b0 : ByteArray} {m0 : Nat} {r0 : Option FieldType} (hex : EX ex) (F : CallFix p m c cc nL s args uw own) (hM : Met l y (Cond.code y bytes maxL rt :: uw) (rmm fr lo) (wPc (.ref b :: As) dm cf ty ex D cy ad A μ) (wQ vf K dm cf D cy ad A) 0 0 A) (n : Nat) (hcode : Cond.code y bytes maxL rt ∈ uw) (hini : Cond.initialized y.cls ∈ uw) (hst : Cond.instanceMethod y ∈ uw) (hsel : Cond.selects C x y ∈ uw) (hl : Cond.methodLink own idx x ∈ uw) (hsm : Cond.sameMethod x.cls owner x.name x.desc ∈ uw) (hxi : Cond.instanceMethod ⟨owner, x.name, x.desc⟩ ∈ uw) (hxc : Cond.code ⟨owner, x.name, x.desc⟩ b0 m0 r0 ∈ uw) (hd : owner ≠ "java/lang/invoke/MethodHandle" ∧ owner ≠ "java/lang/invoke/VarHandle" ∧ (parseMethodDescriptor x.desc).map (fun d => d.parameters.length) = some n) (hR : fr + 1 ≤ R.frames ∧ 8 + (maxL + 11) + lo ≤ R.locals)
    (hrc : ∃ cell : Cell, H[b]? = some cell ∧ cell.vm.isStatics = false ∧ s.vm.findClass C = some cell.cls)
    (hA : ∀ q : Nat, s.heap.size ≤ q → A q) (hw : gwd dm cf ty ex D cy ad A μ s H) (hS : va_S A s.heap H locs) {st0 : List Value} (hlen : As.length = n) (hsz : ls.size = nL) (hst0 : st0 = As.reverse ++ .ref b :: rest) (hrm : (rest.map fun v => v.category).sum ≤ 8) (hdg : decode cc pc = .ok (.invokevirtual idx, 3))
    (kk : ∀ (v : Int) (u : MM) (H1 : Heap) (locs1 : List Loc), K v u → gwd dm cf ty ex D cy ad A u s H1 → va_S A s.heap H1 locs1 → W p l e R s m args below meth c H1 locs1 0 0 Q (F0 m (pc + 3) ls ((vf v).toList ++ rest))) : W p l e R s m args below meth c H locs 0 0 Q (F0 m pc ls st0) := by
  have hG : GoodIn uw (Cond.code y bytes maxL rt :: uw) := uw_GoodIn hcode
  have hts := F.2.2.2.2
  refine call_any (va_runU (C := C) (owner := owner) (x := x) F hM ⟨⟨rfl, rfl, hR.1, hR.2, pay_in hts hG, List.mem_cons_self⟩, hts _ hcode, hts _ hini, ⟨hd.1, hd.2.1⟩, fun sig h => ?_, hts _ hl, hts _ hsm, va_Decl.of (hts _ hxi) (hts _ hxc), hts _ hsel, hts _ hst⟩ ⟨wPc_blind hex, hrc, fun U hU hW => ⟨rfl, fun q h => hA q (Nat.le_trans hS.1 (by rw [← hU]; exact h)), by rw [hU]; exact hw.enter hex hW⟩⟩ rfl hlen hsz hst0 (lv_room (m := m) (pc := pc) (ls := ls) (rest := st0) hrm) hdg ⟨Nat.zero_le _, Nat.zero_le _⟩) hw hS kk
  have h2 := hd.2.2
  rw [h] at h2
  exact (Option.some.inj h2).symm
/-- a method's own end, as its walk asks for it -/
def RetI (p : Program) (l : Launch) (e : Env) (R : Room) (s : State) (m : MethodId) (args : Array Value) (below : List Frame) (meth : Method) (c : Code) (cc : ByteArray) (Q : State → Prop) (dm : WDM) (cf : WCF) (ty : WTY) (ex : State → Prop) (D : va_G) (cy : Nat → ClassId) (ad : AD) (A : Nat → Prop) (K : Int → MM → Prop) : Prop := ∀ (v : Int) (u : MM) (H : Heap) (locs : List Loc) (pc : Nat) (ls : Array Slot), K v u → gwd dm cf ty ex D cy ad A u s H → va_S A s.heap H locs → decode cc pc = .ok (.ireturn, 1) → W p l e R s m args below meth c H locs 0 0 Q (F0 m pc ls [.int (iI v)])
def RetZ (p : Program) (l : Launch) (e : Env) (R : Room) (s : State) (m : MethodId) (args : Array Value) (below : List Frame) (meth : Method) (c : Code) (cc : ByteArray) (Q : State → Prop) (dm : WDM) (cf : WCF) (ty : WTY) (ex : State → Prop) (D : va_G) (cy : Nat → ClassId) (ad : AD) (A : Nat → Prop) (K : Int → MM → Prop) : Prop := ∀ (v : Int) (u : MM) (H : Heap) (locs : List Loc) (pc : Nat) (ls : Array Slot), v = 0 ∨ v = 1 → K v u → gwd dm cf ty ex D cy ad A u s H → va_S A s.heap H locs → decode cc pc = .ok (.ireturn, 1) → W p l e R s m args below meth c H locs 0 0 Q (F0 m pc ls [.int (iI v)])
def RetL (p : Program) (l : Launch) (e : Env) (R : Room) (s : State) (m : MethodId) (args : Array Value) (below : List Frame) (meth : Method) (c : Code) (cc : ByteArray) (Q : State → Prop) (dm : WDM) (cf : WCF) (ty : WTY) (ex : State → Prop) (D : va_G) (cy : Nat → ClassId) (ad : AD) (A : Nat → Prop) (K : Int → MM → Prop) : Prop := ∀ (v : Int) (u : MM) (H : Heap) (locs : List Loc) (pc : Nat) (ls : Array Slot), K v u → gwd dm cf ty ex D cy ad A u s H → va_S A s.heap H locs → decode cc pc = .ok (.lreturn, 1) → W p l e R s m args below meth c H locs 0 0 Q (F0 m pc ls [.long (lJ v)])
def RetV (p : Program) (l : Launch) (e : Env) (R : Room) (s : State) (m : MethodId) (args : Array Value) (below : List Frame) (meth : Method) (c : Code) (cc : ByteArray) (Q : State → Prop) (dm : WDM) (cf : WCF) (ty : WTY) (ex : State → Prop) (D : va_G) (cy : Nat → ClassId) (ad : AD) (A : Nat → Prop) (K : Int → MM → Prop) : Prop := ∀ (u : MM) (H : Heap) (locs : List Loc) (pc : Nat) (ls : Array Slot), K 0 u → gwd dm cf ty ex D cy ad A u s H → va_S A s.heap H locs → decode cc pc = .ok (.return_, 1) → W p l e R s m args below meth c H locs 0 0 Q (F0 m pc ls [])
def RetR (kr : Nat) (p : Program) (l : Launch) (e : Env) (R : Room) (s : State) (m : MethodId) (args : Array Value) (below : List Frame) (meth : Method) (c : Code) (cc : ByteArray) (Q : State → Prop) (dm : WDM) (cf : WCF) (ty : WTY) (ex : State → Prop) (D : va_G) (cy : Nat → ClassId) (ad : AD) (A : Nat → Prop) (K : Int → MM → Prop) : Prop := ∀ (v : Int) (u : MM) (H : Heap) (locs : List Loc) (pc : Nat) (ls : Array Slot), K v u → gwd dm cf ty ex D cy ad A u s H → va_S A s.heap H locs → decode cc pc = .ok (.areturn, 1) → W p l e R s m args below meth c H locs 0 0 Q (F0 m pc ls [rf ad kr v])
/-- a walk gives the contract -/
theorem met_of {K : Int → MM → Prop} {vf : Int → Option Value} {av : List Value} (hy : plainName y.cls = true) (hlen : (lg_sl av).length ≤ maxL)
    (walk : ∀ (p : Program) (e : Env) (R : Room) (s : State) (m : MethodId) (args : Array Value) (below : List Frame) (meth : Method) (c : Code) (ls : Array Slot), meth.sig.returnType = rt → meth.locks = false → R = rmm fr lo → CallFix p m c bytes maxL s args uw y.cls → (∀ q : Nat, s.heap.size ≤ q → A q) → gwd dm cf ty ex D cy ad A μ s s.heap → va_S A s.heap s.heap [] → lv_has ls maxL (lv_args 0 av) →
      W p l e R s m args below meth c s.heap [] 0 0 (MQ below (wQ vf K dm cf D cy ad A) args s 0 0 A) (F0 m 0 ls [])) :
    Met l y (Cond.code y bytes maxL rt :: uw) (rmm fr lo) (wPc av dm cf ty ex D cy ad A μ) (wQ vf K dm cf D cy ad A) 0 0 A := by
  refine Met.ofW (cc := bytes) (maxL := maxL) (ret := rt) hy rfl ?_
  intro p e s m args below meth c s₁ B hml hv
  obtain ⟨rfl, hA, hw⟩ := hv
  have hts := atoms_spec (ws := Cond.code y bytes maxL rt :: uw) B.pre
  have hown : s.vm.findClass y.cls = some m.cls := findClass_of_methodNamed B.named
  have hl := lv_entry av (n := maxL) hlen
  rw [lg_entry_eq]
  generalize (lg_sl av ++ List.replicate (maxL - (lg_sl av).length) Slot.unset).toArray = ls at hl ⊢
  exact walk p e _ s m _ below meth c ls B.returns B.notSynchronized rfl ⟨B.exec, B.bytes, hml, hown, fun w h => hts w (List.mem_cons_of_mem _ h)⟩ hA hw va_S.rf hl
theorem retI_of {K : Int → MM → Prop} {nL : Nat} {own : String} (F : CallFix p m c cc nL s args uw own) (hr : meth.sig.returnType = some .int) (hk : meth.locks = false) : RetI p l e R s m args below meth c cc (MQ below (wQ vI K dm cf D cy ad A) args s 0 0 A) dm cf ty ex D cy ad A K :=
  fun v u H locs pc ls hK hw hS hdg => W.iret F.1 F.2.1 hr (fun t ht hW => ⟨⟨v, u, rfl, hK, by rw [ht]; exact hw.toH⟩, hS.F ht⟩) hS.2.2 hdg hk
theorem retZ_of {K : Int → MM → Prop} {nL : Nat} {own : String} (F : CallFix p m c cc nL s args uw own) (hr : meth.sig.returnType = some .boolean) (hk : meth.locks = false) : RetZ p l e R s m args below meth c cc (MQ below (wQ vI K dm cf D cy ad A) args s 0 0 A) dm cf ty ex D cy ad A K :=
  fun v u H locs pc ls hb hK hw hS hdg => W.zret F.1 F.2.1 hr (by rcases hb with rfl | rfl <;> rfl) (fun t ht hW => ⟨⟨v, u, rfl, hK, by rw [ht]; exact hw.toH⟩, hS.F ht⟩) hS.2.2 hdg hk
theorem retL_of {K : Int → MM → Prop} {nL : Nat} {own : String} (F : CallFix p m c cc nL s args uw own) (hr : meth.sig.returnType = some .long) (hk : meth.locks = false) : RetL p l e R s m args below meth c cc (MQ below (wQ vL K dm cf D cy ad A) args s 0 0 A) dm cf ty ex D cy ad A K :=
  fun v u H locs pc ls hK hw hS hdg => W.lret F.1 F.2.1 hr (fun t ht hW => ⟨⟨v, u, rfl, hK, by rw [ht]; exact hw.toH⟩, hS.F ht⟩) hS.2.2 hdg hk
theorem retV_of {K : Int → MM → Prop} {nL : Nat} {own : String} (F : CallFix p m c cc nL s args uw own) (hr : meth.sig.returnType = none) (hk : meth.locks = false) : RetV p l e R s m args below meth c cc (MQ below (wQ vV K dm cf D cy ad A) args s 0 0 A) dm cf ty ex D cy ad A K :=
  fun u H locs pc ls hK hw hS hdg => W.vret F.1 F.2.1 hr (fun t ht hW => ⟨⟨0, u, rfl, hK, by rw [ht]; exact hw.toH⟩, hS.F ht⟩) hS.2.2 hdg hk
theorem retR_of {K : Int → MM → Prop} {nL kr : Nat} {own nm : String} (F : CallFix p m c cc nL s args uw own) (hr : meth.sig.returnType = some (.object nm)) (hk : meth.locks = false) : RetR kr p l e R s m args below meth c cc (MQ below (wQ (vR ad kr) K dm cf D cy ad A) args s 0 0 A) dm cf ty ex D cy ad A K :=
  fun v u H locs pc ls hK hw hS hdg => W.aret F.1 F.2.1 hr (Or.inl ⟨_, rfl⟩) (rf_val ad kr v) (fun t ht hW => ⟨⟨v, u, rfl, hK, by rw [ht]; exact hw.toH⟩, hS.F ht⟩) hS.2.2 hdg hk
variable {cells slots : Nat}
theorem q_aload_n (hx : p.tables.exec = Jvm.exec) (hb : c.code = cc) {k : Fin 4} {i f : Nat} {z : Int} (hdg : decode cc pc = .ok (.aload_n k, 1)) (hi : (k : Nat) = i) (hl : ls[i]? = some (.val (rf ad f z))) (kk : W p l e R s m args below meth c H locs cells slots Q (F0 m (pc + 1) ls (rf ad f z :: rest))) : W p l e R s m args below meth c H locs cells slots Q (F0 m pc ls rest) := by
  by_cases h : z < 0
  · rw [rf_neg h] at hl kk
    exact lv_aload_nN hx hb hdg hi hl kk
  · rw [rf_pos (by omega)] at hl kk
    exact lv_aload_n hx hb hdg hi hl kk
theorem q_aload (hx : p.tables.exec = Jvm.exec) (hb : c.code = cc) {i f : Nat} {z : Int} (hdg : decode cc pc = .ok (.aload i, 2)) (hl : ls[i]? = some (.val (rf ad f z))) (kk : W p l e R s m args below meth c H locs cells slots Q (F0 m (pc + 2) ls (rf ad f z :: rest))) : W p l e R s m args below meth c H locs cells slots Q (F0 m pc ls rest) := by
  by_cases h : z < 0
  · rw [rf_neg h] at hl kk
    exact lv_aloadN hx hb hdg hl kk
  · rw [rf_pos (by omega)] at hl kk
    exact lv_aload hx hb hdg hl kk
theorem q_astore_n (hx : p.tables.exec = Jvm.exec) (hb : c.code = cc) {k : Fin 4} {i f nL : Nat} {z : Int} {lv lv' : List (Nat × Value)} (hdg : decode cc pc = .ok (.astore_n k, 1)) (hi : (k : Nat) = i) (h : lv_has ls nL lv) (hn : i < nL) (hl : (i, rf ad f z) :: lv.filter (fun q => !(q.1 == i) && !(q.1 + 1 == i && q.2.category == 2)) = lv') (kk : ∀ ls' : Array Slot, lv_has ls' nL lv' → W p l e R s m args below meth c H locs cells slots Q (F0 m (pc + 1) ls' rest)) : W p l e R s m args below meth c H locs cells slots Q (F0 m pc ls (rf ad f z :: rest)) := by
  by_cases hz : z < 0
  · rw [rf_neg hz] at hl ⊢
    exact lv_astore_nN hx hb hdg hi h hn hl kk
  · rw [rf_pos (by omega)] at hl ⊢
    exact lv_astore_n hx hb hdg hi h hn hl kk
theorem q_astore (hx : p.tables.exec = Jvm.exec) (hb : c.code = cc) {i f nL : Nat} {z : Int} {lv lv' : List (Nat × Value)} (hdg : decode cc pc = .ok (.astore i, 2)) (h : lv_has ls nL lv) (hn : i < nL) (hl : (i, rf ad f z) :: lv.filter (fun q => !(q.1 == i) && !(q.1 + 1 == i && q.2.category == 2)) = lv') (kk : ∀ ls' : Array Slot, lv_has ls' nL lv' → W p l e R s m args below meth c H locs cells slots Q (F0 m (pc + 2) ls' rest)) : W p l e R s m args below meth c H locs cells slots Q (F0 m pc ls (rf ad f z :: rest)) := by
  by_cases hz : z < 0
  · rw [rf_neg hz] at hl ⊢
    exact lv_astoreN hx hb hdg h hn hl kk
  · rw [rf_pos (by omega)] at hl ⊢
    exact lv_astore hx hb hdg h hn hl kk
theorem q_ifnull (hx : p.tables.exec = Jvm.exec) (hb : c.code = cc) {f : Nat} {z : Int} {off : Int} {tgt : Nat} (hdg : decode cc pc = .ok (.ifnull off, 3)) (ht : (pc : Int) + off = (tgt : Int)) (kt : z < 0 → W p l e R s m args below meth c H locs cells slots Q (F0 m tgt ls rest)) (kf : ¬ z < 0 → W p l e R s m args below meth c H locs cells slots Q (F0 m (pc + 3) ls rest)) : W p l e R s m args below meth c H locs cells slots Q (F0 m pc ls (rf ad f z :: rest)) := by
  by_cases h : z < 0
  · rw [rf_neg h]
    exact lv_ifnullN hx hb hdg ht (kt h)
  · rw [rf_pos (by omega)]
    exact lv_ifnull hx hb hdg (kf h)
theorem q_ifnonnull (hx : p.tables.exec = Jvm.exec) (hb : c.code = cc) {f : Nat} {z : Int} {off : Int} {tgt : Nat} (hdg : decode cc pc = .ok (.ifnonnull off, 3)) (ht : (pc : Int) + off = (tgt : Int)) (kf : z < 0 → W p l e R s m args below meth c H locs cells slots Q (F0 m (pc + 3) ls rest)) (kt : ¬ z < 0 → W p l e R s m args below meth c H locs cells slots Q (F0 m tgt ls rest)) : W p l e R s m args below meth c H locs cells slots Q (F0 m pc ls (rf ad f z :: rest)) := by
  by_cases h : z < 0
  · rw [rf_neg h]
    exact lv_ifnonnullN hx hb hdg (kf h)
  · rw [rf_pos (by omega)]
    exact lv_ifnonnull hx hb hdg ht (kt h)
end
