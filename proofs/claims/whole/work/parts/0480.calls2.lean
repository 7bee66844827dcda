/-! calls by a method whose own cells are more than the callee's -/
section
variable {p : Program} {l : Launch} {e : Env} {R : Room} {s : State} {m : MethodId} {args : Array Value} {below : List Frame} {meth : Method} {c : Code} {H : Heap} {locs : List Loc} {Q : State → Prop} {cc : ByteArray} {pc nL : Nat} {ls : Array Slot} {rest : List Value} {own : String} {cells slots : Nat}
variable {dm : WDM} {cf : WCF} {ty : WTY} {ex : State → Prop} {D : va_G} {cy : Nat → ClassId} {ad : AD} {A A' : Nat → Prop} {μ : MM}
variable {y : MethodName} {bytes : ByteArray} {maxL idx n mc ms : Nat} {rt : Option FieldType} {rm : Room}
theorem call_gen {Qa : State → Outcome → State → Prop} {st0 : List Value} (hr : va_Run p l e R s m args below meth c H locs cells slots mc ms (F0 m pc ls st0) rest Qa A') (hF : ∀ st v t, Qa st (.returned v) t → va_F A' st t) (hAA : ∀ q, A' q → A q) (hS : va_S A s.heap H locs)
    (kk : ∀ (v : Option Value) (st t : State) (locs1 : List Loc), st.heap = H → Qa st (.returned v) t → va_S A s.heap t.heap locs1 → W p l e R s m args below meth c t.heap locs1 (cells + mc) (slots + ms) Q (F0 m (pc + 3) ls (v.toList ++ rest))) : W p l e R s m args below meth c H locs cells slots Q (F0 m pc ls st0) := by
  intro T hT X
  obtain ⟨v, st₀, t, T', L, h0, X', hL, e1, e2, hq, st⟩ := hr T hT X
  obtain ⟨hz, hk⟩ := hF _ _ _ hq
  rw [h0] at hz hk
  have hS1 : va_S A s.heap t.heap (locs ++ L) := ⟨Nat.le_trans hS.1 hz, fun q h1 h2 => by rw [hk q (Nat.lt_of_lt_of_le h1 hS.1) (fun g => h2 (hAA q g))]; exact hS.2.1 q h1 h2, fun q hq => by
      rcases List.mem_append.mp hq with h | h
      · exact hS.2.2 q h
      · exact hAA _ (hL q h)⟩
  obtain ⟨t2, a1, b1⟩ := kk v st₀ t (locs ++ L) h0 hq hS1 T' e1 X'
  exact ⟨t2, st t2 a1, b1⟩
theorem cbX (F : CallFix p m c cc nL s args uw own) (n : Nat) (hcode : Cond.code y bytes maxL rt ∈ uw) (hini : Cond.initialized y.cls ∈ uw) (hl : Cond.methodLink own idx y ∈ uw) (hd : y.cls ≠ "java/lang/invoke/MethodHandle" ∧ y.cls ≠ "java/lang/invoke/VarHandle" ∧ (parseMethodDescriptor y.desc).map (fun d => d.parameters.length) = some n) (hR : rm.frames + 1 ≤ R.frames ∧ 8 + (maxL + 11) + rm.locals ≤ R.locals) : CallB R s args own idx y bytes maxL rt (Cond.code y bytes maxL rt :: uw) rm rm.cells rm.slots n :=
  callB_of n F.2.2.2.2 (uw_GoodIn hcode) rfl rfl rfl (F.2.2.2.2 _ hini) (F.2.2.2.2 _ hl) hd hR
theorem call_V2 {Qc : Array Value → State → Outcome → State → Prop} {As : List Value} {b : Nat} (hex : EX ex) (F : CallFix p m c cc nL s args uw own) (hM : Met l y (Cond.code y bytes maxL rt :: uw) rm (wPc (.ref b :: As) dm cf ty ex D cy ad A' μ) Qc rm.cells rm.slots A') (hF : ∀ a st v t, Qc a st (.returned v) t → va_F A' st t) (n : Nat) (hcode : Cond.code y bytes maxL rt ∈ uw) (hini : Cond.initialized y.cls ∈ uw) (hst : Cond.instanceMethod y ∈ uw) (hsel : Cond.selects y.cls y y ∈ uw) (hl : Cond.methodLink own idx y ∈ uw) (hd : y.cls ≠ "java/lang/invoke/MethodHandle" ∧ y.cls ≠ "java/lang/invoke/VarHandle" ∧ (parseMethodDescriptor y.desc).map (fun d => d.parameters.length) = some n) (hR : rm.frames + 1 ≤ R.frames ∧ 8 + (maxL + 11) + rm.locals ≤ R.locals)
    (hrc : ∃ cell : Cell, H[b]? = some cell ∧ cell.vm.isStatics = false ∧ s.vm.findClass y.cls = some cell.cls)
    (hA : ∀ q : Nat, H.size ≤ q → A' q) (hAA : ∀ q, A' q → A q) (hw : gwd dm cf ty ex D cy ad A' μ s H) (hS : va_S A s.heap H locs) {st0 : List Value} (hlen : As.length = n) (hsz : ls.size = nL) (hst0 : st0 = As.reverse ++ .ref b :: rest) (hrm : (rest.map fun v => v.category).sum ≤ 8) (hdg : decode cc pc = .ok (.invokevirtual idx, 3)) (hf : cells + rm.cells ≤ R.cells ∧ slots + rm.slots ≤ R.slots)
    (kk : ∀ (v : Option Value) (st t : State) (locs1 : List Loc), st.heap = H → Qc (Value.ref b :: As).toArray st (.returned v) t → va_S A s.heap t.heap locs1 → W p l e R s m args below meth c t.heap locs1 (cells + rm.cells) (slots + rm.slots) Q (F0 m (pc + 3) ls (v.toList ++ rest))) : W p l e R s m args below meth c H locs cells slots Q (F0 m pc ls st0) :=
  call_gen (va_runV (C := y.cls) F hM ⟨cbX F n hcode hini hl hd hR, F.2.2.2.2 _ hst, F.2.2.2.2 _ hsel⟩ ⟨wPc_blind hex, hrc, fun U hU hW => ⟨rfl, fun q h => hA q (by rw [← hU]; exact h), by rw [hU]; exact hw.enter hex hW⟩⟩ rfl hlen hsz hst0 (lv_room (m := m) (pc := pc) (ls := ls) (rest := st0) hrm) hdg hf) (hF _) hAA hS kk
theorem call_S2 {Qc : Array Value → State → Outcome → State → Prop} {As : List Value} (hex : EX ex) (F : CallFix p m c cc nL s args uw own) (hM : Met l y (Cond.code y bytes maxL rt :: uw) rm (wPc As dm cf ty ex D cy ad A' μ) Qc rm.cells rm.slots A') (hF : ∀ a st v t, Qc a st (.returned v) t → va_F A' st t) (n : Nat) (hcode : Cond.code y bytes maxL rt ∈ uw) (hini : Cond.initialized y.cls ∈ uw) (hst : Cond.static y ∈ uw) (hl : Cond.methodLink own idx y ∈ uw) (hd : y.cls ≠ "java/lang/invoke/MethodHandle" ∧ y.cls ≠ "java/lang/invoke/VarHandle" ∧ (parseMethodDescriptor y.desc).map (fun d => d.parameters.length) = some n) (hR : rm.frames + 1 ≤ R.frames ∧ 8 + (maxL + 11) + rm.locals ≤ R.locals)
    (hA : ∀ q : Nat, H.size ≤ q → A' q) (hAA : ∀ q, A' q → A q) (hw : gwd dm cf ty ex D cy ad A' μ s H) (hS : va_S A s.heap H locs) {st0 : List Value} (hlen : As.length = n) (hsz : ls.size = nL) (hst0 : st0 = As.reverse ++ rest) (hrm : (rest.map fun v => v.category).sum ≤ 8) (hdg : decode cc pc = .ok (.invokestatic idx, 3)) (hf : cells + rm.cells ≤ R.cells ∧ slots + rm.slots ≤ R.slots)
    (kk : ∀ (v : Option Value) (st t : State) (locs1 : List Loc), st.heap = H → Qc As.toArray st (.returned v) t → va_S A s.heap t.heap locs1 → W p l e R s m args below meth c t.heap locs1 (cells + rm.cells) (slots + rm.slots) Q (F0 m (pc + 3) ls (v.toList ++ rest))) : W p l e R s m args below meth c H locs cells slots Q (F0 m pc ls st0) :=
  call_gen (va_runS F hM ⟨cbX F n hcode hini hl hd hR, F.2.2.2.2 _ hst⟩ ⟨wPc_blind hex, fun U hU hW => ⟨rfl, fun q h => hA q (by rw [← hU]; exact h), by rw [hU]; exact hw.enter hex hW⟩⟩ rfl hlen hsz hst0 (lv_room (m := m) (pc := pc) (ls := ls) (rest := st0) hrm) hdg hf) (hF _) hAA hS kk
theorem wQ_F {vf : Int → Option Value} {K : Int → MM → Prop} (a : Array Value) (st : State) (v : Option Value) (t : State) (h : wQ vf K dm cf D cy ad A' a st (.returned v) t) : va_F A' st t := h.2
/-- the world with fewer cells that are free -/
theorem gwd.less (hw : gwd dm cf ty ex D cy ad A μ s H) (h : ∀ (k : Nat) (i : Int), dm k (μ k) i → A' (ad k i)) : gwd dm cf ty ex D cy ad A' μ s H := ⟨hw.1, hw.2.1, hw.2.2.1, h⟩
/-- System.arraycopy between cells of the world: at an address -/
theorem x_copy (F : CallFix p m c cc nL s args uw own) (hsz : ls.size = nL) {index : Nat} (hlink : Cond.methodLink own index arraycopyName ∈ uw) (hnat : (Cond.native arraycopyName).before args s = true) (hstat : (Cond.static arraycopyName).before args s = true) (hini : (Cond.initialized "java/lang/System").before args s = true)
    {cA : ClassId} {ty0 : FieldType} (hT0 : ArrOfT s cA ty0) (hprim : refKind ty0 = false) {a0 a1 n0 n1 : Nat} {f g : Nat → Int32} (hc0 : H[a0]? = some (vp_cell cA (n0, .inl f))) (hc1 : H[a1]? = some (vp_cell cA (n1, .inl g)))
    {sp dp n : Int32} (h1 : ¬ sp < 0) (h2 : ¬ dp < 0) (h3 : ¬ n < 0) (h4 : sp.toNatClampNeg + n.toNatClampNeg ≤ n0) (h5 : dp.toNatClampNeg + n.toNatClampNeg ≤ n1) (hfit : ∀ i, i < n.toNatClampNeg → fits ty0 (.int (f (sp.toNatClampNeg + i))) = true)
    (hframes : 1 ≤ R.frames) (hlocals : (rest.map fun v => v.category).sum + (nativeFrameWords "java/lang/System" "arraycopy" 5 + 11) ≤ R.locals) (hS : va_S A s.heap H locs) (hA1 : A a1) (hdg : decode cc pc = .ok (.invokestatic index, 3))
    (kk : ∀ (H1 : Heap) (locs1 : List Loc), H1[a1]? = some (vp_cell cA (n1, .inl (va_cpy f g sp.toNatClampNeg dp.toNatClampNeg n.toNatClampNeg))) → (∀ q : Nat, q ≠ a1 → H1[q]? = H[q]?) → va_S A s.heap H1 locs1 → W p l e R s m args below meth c H1 locs1 cells slots Q (F0 m (pc + 3) ls rest)) : W p l e R s m args below meth c H locs cells slots Q (F0 m pc ls (.int n :: .int dp :: .ref a1 :: .int sp :: .ref a0 :: rest)) := by
  have nn : ∀ z : Int32, ¬ z < 0 → z.toInt = (z.toNatClampNeg : Int) := by
    intro z hz
    have hz0 : (0 : Int) ≤ z.toInt := by
      have := Int32.not_lt.mp hz
      simpa using Int32.le_iff_toInt_le.mp this
    show z.toInt = ((z.toInt.toNat : Nat) : Int)
    omega
  intro T hT X
  obtain ⟨-, k0, hk0, cm0, hkk0⟩ := hT0 n0 (fun j => .int (f j))
  obtain ⟨vm', X', step⟩ := X.arraycopy F.1 F.2.2.2.1 (F.2.2.2.2 _ hlink) hnat hstat hini (src := a0) (dst := a1) (cs := vp_cell cA (n0, .inl f)) (cd := vp_cell cA (n1, .inl g)) (srcPos := sp) (destPos := dp) (n := n) (by rw [hT]; exact hc0) (by rw [hT]; exact hc1)
    (fun _ h => by cases h) (fun _ h => by cases h) (fun h => by cases h) (fun h => by cases h) hk0 hk0 hkk0 hkk0 (by simp [hprim]) h1 h2 h3
    (by rw [nn sp h1, nn n h3]; show ¬ _ > ((arrV cA n0 (fun j => .int (f j))).slots.size : Int); rw [arrV_size]; omega)
    (by rw [nn dp h2, nn n h3]; show ¬ _ > ((arrV cA n1 (fun j => .int (g j))).slots.size : Int); rw [arrV_size]; omega)
    (fun vm₁ _ i hi => by
      have e : (vp_cell cA (n0, .inl f)).slots.getD (sp.toNatClampNeg + i) .null = .int (f (sp.toNatClampNeg + i)) := by
        show (arrV cA n0 (fun j => .int (f j))).slots.getD _ _ = _
        rw [Array.getD_eq_getD_getElem?, arrV_read _ _ (by omega)]
        rfl
      refine ⟨?_, ?_⟩
      · rw [e]
        exact hfit i hi
      · rw [e]
        exact trivial)
    (g := F0 m pc ls (.int n :: .int dp :: .ref a1 :: .int sp :: .ref a0 :: rest)) rfl (by rw [F.2.2.1]; exact hsz) (rest := rest) rfl (by rw [F.2.1]; exact hdg) hframes (by show 2 * 0 + _ + _ ≤ _; omega)
  have e1 : copied (vp_cell cA (n0, .inl f)) (vp_cell cA (n1, .inl g)) sp dp n = vp_cell cA (n1, .inl (va_cpy f g sp.toNatClampNeg dp.toNatClampNeg n.toNatClampNeg)) := va_copied (fun z => .int z) cA cA f g h4
  rw [e1] at X' step
  have hl : a1 < H.size := (Array.getElem?_eq_some_iff.mp hc1).1
  have oq : ∀ q : Nat, q ≠ a1 → (H.setIfInBounds a1 (vp_cell cA (n1, .inl (va_cpy f g sp.toNatClampNeg dp.toNatClampNeg n.toNatClampNeg))))[q]? = H[q]? := fun q hq => by simp [Array.getElem?_setIfInBounds, Ne.symm hq]
  obtain ⟨t, b1, b2⟩ := kk _ _ (show (H.setIfInBounds a1 _)[a1]? = some _ by simp [Array.getElem?_setIfInBounds, hl]) oq ⟨by simp; exact hS.1, fun q g1 g2 => by
      rw [oq q (fun e => g2 (by rw [e]; exact hA1))]
      exact hS.2.1 q g1 g2, fun q hq => by
      rcases List.mem_append.mp hq with h | h
      · exact hS.2.2 q h
      · obtain ⟨z, -, hz⟩ := List.mem_map.mp h
        rw [← hz]
        exact hA1⟩ _ (by rw [← hT]; rfl) X'
  exact ⟨t, step t b1, b2⟩
end
