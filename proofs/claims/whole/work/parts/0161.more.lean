def lxor (a b : Int) : Int := (lJ a ^^^ lJ b).toInt
theorem rgB {v : Int} (h : v = 0 ∨ v = 1) : rg v := by rcases h with rfl | rfl <;> decide
section
variable {p : Program} {l : Launch} {e : Env} {R : Room} {s : State} {m : MethodId} {args : Array Value} {below : List Frame} {meth : Method} {c : Code} {H : Heap} {locs : List Loc} {cells slots : Nat} {Q : State → Prop} {cc : ByteArray} {pc : Nat} {ls : Array Slot} {rest : List Value}
variable {dm : WDM} {cf : WCF} {ty : WTY} {ex : State → Prop} {D : va_G} {cy : Nat → ClassId} {ad : AD} {A : Nat → Prop}
theorem q_nmI {a b : Int} (h : b = a) (k : W p l e R s m args below meth c H locs cells slots Q (F0 m pc ls (.int (iI b) :: rest))) : W p l e R s m args below meth c H locs cells slots Q (F0 m pc ls (.int (iI a) :: rest)) := h ▸ k
theorem q_nmL {a b : Int} (h : b = a) (k : W p l e R s m args below meth c H locs cells slots Q (F0 m pc ls (.long (lJ b) :: rest))) : W p l e R s m args below meth c H locs cells slots Q (F0 m pc ls (.long (lJ a) :: rest)) := h ▸ k
theorem q_rf {f : Nat} {z : Int} (h : 0 ≤ z) (k : W p l e R s m args below meth c H locs cells slots Q (F0 m pc ls (.ref (ad f z) :: rest))) : W p l e R s m args below meth c H locs cells slots Q (F0 m pc ls (rf ad f z :: rest)) := by
  rw [rf_pos h]
  exact k
theorem q_lxor (hx : p.tables.exec = Jvm.exec) (hb : c.code = cc) {a b : Int} (hdg : decode cc pc = .ok (.lxor, 1)) (k : W p l e R s m args below meth c H locs cells slots Q (F0 m (pc + 1) ls (.long (lJ (lxor a b)) :: rest))) : W p l e R s m args below meth c H locs cells slots Q (F0 m pc ls (.long (lJ b) :: .long (lJ a) :: rest)) := lv_lxor hx hb hdg (by rw [show lJ (lxor a b) = _ from lJ_of _] at k; exact k)
theorem retZ2_of {K : Int → MM → Prop} {nL : Nat} {own : String} (F : CallFix p m c cc nL s args uw own) (hr : meth.sig.returnType = some .boolean) (hk : meth.locks = false) : RetZ p l e R s m args below meth c cc (MQ below (wQ vI (fun v u => (v = 0 ∨ v = 1) ∧ K v u) dm cf D cy ad A) args s 0 0 A) dm cf ty ex D cy ad A K :=
  fun v u H locs pc ls hb hK hw hS hdg => W.zret F.1 F.2.1 hr (by rcases hb with rfl | rfl <;> rfl) (fun t ht hW => ⟨⟨v, u, rfl, ⟨hb, hK⟩, by rw [ht]; exact hw.toH⟩, hS.F ht⟩) hS.2.2 hdg hk
theorem MetF_ofW {y : MethodName} {ws ws' : List Cond} {rm : Room} {Pc : Array Value → State → Prop} {Qc : Array Value → State → Outcome → State → Prop} {mc ms : Nat} {free : Addr → Prop} {maxL : Nat} {ret : Option FieldType}
    (hy : plainFor y = true) (hw : ws = Cond.code y cc maxL ret :: ws')
    (body : ∀ p e s m args below meth c s₁, BodyLoose p l y (headSpec ws rm) cc maxL ret e s m args below meth c s₁ → c.maxLocals = maxL → Pc args s →
      W p l e (headSpec ws rm).room s m args below meth c s.heap [] 0 0 (MQ below Qc args s mc ms free) (entryFrame m args maxL)) : Met l y ws rm Pc Qc mc ms free := by
  refine MetFree.of_bodySF (code := cc) (maxLocals := maxL) (ret := ret) hy ?_ ?_
  · intro args s m h hn
    obtain ⟨meth, c, h1, h2, h3, h4, h5, h6, -, -⟩ := Cond.code_spec hn (atoms_spec (ws := ws) h _ (by rw [hw]; exact List.mem_cons_self))
    exact ⟨meth, c, h1, h2, h3, h4, h5, h6⟩
  · intro p e s m args below meth c s₁ B hml hP _
    have hh0 : s₁.heap = s.heap := by rw [B.state]; rfl
    obtain ⟨t, a1, o, b1, b2, b3⟩ := body p e s m args below meth c s₁ B hml hP s₁ hh0 (Stand.of_body B)
    exact ⟨t, o, a1, b1, b2, ⟨b3.1, b3.2⟩⟩
theorem met_ofF {y : MethodName} {bytes : ByteArray} {maxL fr lo : Nat} {rt : Option FieldType} {μ : MM} {K : Int → MM → Prop} {vf : Int → Option Value} {av : List Value} (hy : plainFor y = true) (hlen : (lg_sl av).length ≤ maxL)
    (walk : ∀ (p : Program) (e : Env) (R : Room) (s : State) (m : MethodId) (args : Array Value) (below : List Frame) (meth : Method) (c : Code) (ls : Array Slot), meth.sig.returnType = rt → meth.locks = false → R = rmm fr lo → CallFix p m c bytes maxL s args uw y.cls → (∀ q : Nat, s.heap.size ≤ q → A q) → gwd dm cf ty ex D cy ad A μ s s.heap → va_S A s.heap s.heap [] → lv_has ls maxL (lv_args 0 av) →
      W p l e R s m args below meth c s.heap [] 0 0 (MQ below (wQ vf K dm cf D cy ad A) args s 0 0 A) (F0 m 0 ls [])) :
    Met l y (Cond.code y bytes maxL rt :: uw) (rmm fr lo) (wPc av dm cf ty ex D cy ad A μ) (wQ vf K dm cf D cy ad A) 0 0 A := by
  refine MetF_ofW (cc := bytes) (maxL := maxL) (ret := rt) hy rfl ?_
  intro p e s m args below meth c s₁ B hml hv
  obtain ⟨rfl, hA, hw⟩ := hv
  have hts := atoms_spec (ws := Cond.code y bytes maxL rt :: uw) B.pre
  have hown : s.vm.findClass y.cls = some m.cls := findClass_of_methodNamed B.named
  have hl := lv_entry av (n := maxL) hlen
  rw [lg_entry_eq]
  generalize (lg_sl av ++ List.replicate (maxL - (lg_sl av).length) Slot.unset).toArray = ls at hl ⊢
  exact walk p e _ s m _ below meth c ls B.returns B.notSynchronized rfl ⟨B.exec, B.bytes, hml, hown, fun w h => hts w (List.mem_cons_of_mem _ h)⟩ hA hw va_S.rf hl
end
