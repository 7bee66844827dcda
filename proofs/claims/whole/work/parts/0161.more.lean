theorem rgB {v : Int} (h : v = 0 ∨ v = 1) : rg v := by rcases h with rfl | rfl <;> decide
section
variable {p : Program} {l : Launch} {e : Env} {R : Room} {s : State} {m : MethodId} {args : Array Value} {below : List Frame} {meth : Method} {c : Code} {H : Heap} {locs : List Loc} {cells slots : Nat} {Q : State → Prop} {cc : ByteArray} {pc : Nat} {ls : Array Slot} {rest : List Value}
variable {dm : WDM} {cf : WCF} {ty : WTY} {ex : State → Prop} {D : va_G} {cy : Nat → ClassId} {ad : AD} {A : Nat → Prop}
theorem q_nmI {a b : Int} (h : b = a) (k : W p l e R s m args below meth c H locs cells slots Q (F0 m pc ls (.int (iI b) :: rest))) : W p l e R s m args below meth c H locs cells slots Q (F0 m pc ls (.int (iI a) :: rest)) := h ▸ k
theorem q_nmL {a b : Int} (h : b = a) (k : W p l e R s m args below meth c H locs cells slots Q (F0 m pc ls (.long (lJ b) :: rest))) : W p l e R s m args below meth c H locs cells slots Q (F0 m pc ls (.long (lJ a) :: rest)) := h ▸ k
theorem retZ2_of {K : Int → MM → Prop} {nL : Nat} {own : String} (F : CallFix p m c cc nL s args uw own) (hr : meth.sig.returnType = some .boolean) (hk : meth.locks = false) : RetZ p l e R s m args below meth c cc (MQ below (wQ vI (fun v u => (v = 0 ∨ v = 1) ∧ K v u) dm cf D cy ad A) args s 0 0 A) dm cf ty ex D cy ad A K :=
  fun v u H locs pc ls hb hK hw hS hdg => W.zret F.1 F.2.1 hr (by rcases hb with rfl | rfl <;> rfl) (fun t ht hW => ⟨⟨v, u, rfl, ⟨hb, hK⟩, by rw [ht]; exact hw.toH⟩, hS.F ht⟩) hS.2.2 hdg hk
end
