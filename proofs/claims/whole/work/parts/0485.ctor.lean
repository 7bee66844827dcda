/-! constructors: a world that is a list of cells -/
def tyN (cy : Nat → ClassId) : List (ClassId × FieldType) := [(cy 0, .int), (cy 1, .byte), (cy 2, .boolean), (cy 3, .object RX6), (cy 4, .object RX9), (cy 5, .object RX8)]
def exN (U : State) : Prop := (va_AO RX6 U ∧ va_AO RX9 U ∧ va_AO RX8 U) ∧ va_Nw (.methodLinkNest RX10 29 yX5_init "HammerTowers") U ∧ va_Nw (.methodLinkNest RX10 36 yX1_init "HammerTowers") U ∧ va_Nw (.methodLinkNest RX10 47 yX2_init "HammerTowers") U ∧ va_Nw (.methodLinkNest RX10 56 yX6_init "HammerTowers") U ∧ va_Nw (.methodLinkNest RX10 57 yX8_init "HammerTowers") U ∧ va_Nw (.methodLinkNest RX8 11 yX3_init "HammerTowers") U
theorem exN.warm {s U : State} (hW : s.WarmedH U.vm) (h : exN s) : exN U := by
  obtain ⟨⟨a1, a2, a3⟩, h1, h2, h3, h4, h5, h6⟩ := h
  exact ⟨⟨a1.moved hW.alike, a2.moved hW.alike, a3.moved hW.alike⟩, va_Nw.warmM hW h1, va_Nw.warmM hW h2, va_Nw.warmM hW h3, va_Nw.warmM hW h4, va_Nw.warmM hW h5, va_Nw.warmM hW h6⟩
def nK (D : va_G) (cy : Nat → ClassId) (U : State) : Prop := va_K D vwCl (tyN cy) U ∧ exN U
theorem nK.warm {D : va_G} {cy : Nat → ClassId} {s U : State} (hW : s.WarmedH U.vm) (h : nK D cy s) : nK D cy U := ⟨va_K.moved hW.alike h.1, h.2.warm hW⟩
def nPc (D : va_G) (cy : Nat → ClassId) (b : Nat) (As : List Value) (sz : Nat) (L0 : va_W) : Array Value → State → Prop := va_Pc (.ref b :: As) (fun U => U.heap.size = sz ∧ va_P D vwCl L0 U.heap ∧ nK D cy U ∧ va_D (fun _ => True) L0)
def nQ (D : va_G) (L1 : (Nat → Nat) → va_W) (A : Nat → Prop) : Array Value → State → Outcome → State → Prop := fun _ st oc t => (∃ α : Nat → Nat, oc = .returned none ∧ va_P D vwCl (L1 α) t.heap ∧ va_D A (L1 α)) ∧ va_F A st t
theorem nPc_blind {D : va_G} {cy : Nat → ClassId} {b : Nat} {As : List Value} {sz : Nat} {L0 : va_W} : FrameBlind (nPc D cy b As sz L0) := by
  intro a U g mk h
  obtain ⟨h0, h1, h2, h3, h4⟩ := h
  exact ⟨h0, h1, h2, h3.warm (U := U.calling g mk a) (State.WarmedH.refl U), h4⟩
theorem nQ_F {D : va_G} {L1 : (Nat → Nat) → va_W} {A : Nat → Prop} (a : Array Value) (st : State) (v : Option Value) (t : State) (h : nQ D L1 A a st (.returned v) t) : va_F A st t := h.2
section
variable {p : Program} {l : Launch} {e : Env} {R : Room} {s : State} {m : MethodId} {args : Array Value} {below : List Frame} {meth : Method} {c : Code} {H : Heap} {locs : List Loc} {Q : State → Prop} {cc : ByteArray} {pc nL : Nat} {ls : Array Slot} {rest : List Value} {own : String} {cells slots : Nat}
variable {D : va_G} {cy : Nat → ClassId} {A : Nat → Prop} {ws : va_W}
variable {y : MethodName} {bytes : ByteArray} {maxL idx n : Nat} {rm : Room}
theorem nK.arr (hK : nK D cy s) {t0 : Nat} {cA : ClassId} {ty : FieldType} (hp : refKind ty = false) (ht : (tyN cy)[t0]? = some (cA, ty)) : s.vm.findClass ("[" ++ ty.toString) = some cA := by
  have h := (hK.1.2 t0 _ ht).2
  cases ty with
  | object C => cases hp
  | _ => exact h
/-- an array of whole numbers -/
theorem n_newa (F : CallFix p m c cc nL s args uw own) (hK : nK D cy s) (hP : va_P D vwCl ws H) (hD : va_D A ws) (hS : va_S A s.heap H locs) (hA : ∀ q, s.heap.size ≤ q → A q) {atype : ArrayType} {ty : FieldType} (t0 : Nat) {cA : ClassId} (ht : (tyN cy)[t0]? = some (cA, ty)) (harr : Cond.arrayClass (newarray.typeOf atype) ∈ uw) (hty : newarray.typeOf atype = ty) (hp : refKind ty = false) (N : Nat) {z : Int} (hz : z = (N : Int)) (hdef : defaultValue ty = .int 0)
    (hb : N ≤ 100000 ∧ componentBytes ty ≤ 8) (hr : cells + 1 ≤ R.cells ∧ slots + N ≤ R.slots) (hdg : decode cc pc = .ok (.newarray atype, 2))
    (kk : ∀ (q : Nat) (H1 : Heap), q = H.size → va_P D vwCl (ws ++ [(q, .inl (cA, N, .inl (fun _ => iI 0)))]) H1 → va_D A (ws ++ [(q, .inl (cA, N, .inl (fun _ => iI 0)))]) → va_S A s.heap H1 locs → (∀ q : Nat, q < H.size → H1[q]? = H[q]?) → H1.size = H.size + 1 → W p l e R s m args below meth c H1 locs (cells + 1) (slots + N) Q (F0 m (pc + 2) ls (.ref q :: rest))) : W p l e R s m args below meth c H locs cells slots Q (F0 m pc ls (.int (iI z) :: rest)) := by
  subst hty
  subst hz
  have hrg : rg (N : Int) := ⟨by omega, by omega⟩
  refine va_newaK F.1 F.2.1 (F.2.2.2.2 _ harr) rfl hdg rfl (iI_nn hrg (by omega)) (N := N) (by rw [iI_cl hrg]; rfl) (Nat.le_trans (Nat.mul_le_mul hb.1 hb.2) (by decide)) hr.1 hr.2 rfl fun H1 cA' e1 z1 o1 hAr hNm => ?_
  have ec : cA' = cA := Option.some.inj (hNm.symm.trans (hK.arr hp ht))
  subst ec
  have hk : ∀ (k : Nat) (x : Nat × va_E), ws[k]? = some x → H1[x.1]? = H[x.1]? := fun k x hx => o1 x.1 ((hP k x hx).lt)
  refine kk H.size H1 rfl ((hP.kept hk).app (va_P1 ?_)) (hD.push hP rfl (hA _ hS.1)) ⟨Nat.le_trans hS.1 (by omega), fun x h1 h2 => (o1 x (Nat.lt_of_lt_of_le h1 hS.1)).trans (hS.2.1 x h1 h2), hS.2.2⟩ o1 z1
  show H1[H.size]? = some (vp_cell _ _)
  rw [e1, vp_cell_i, hdef]
  rfl
theorem n_anew (F : CallFix p m c cc nL s args uw own) (hK : nK D cy s) (hP : va_P D vwCl ws H) (hD : va_D A ws) (hS : va_S A s.heap H locs) (hA : ∀ q, s.heap.size ≤ q → A q) {C : String} (t0 : Nat) {cA : ClassId} (ht : (tyN cy)[t0]? = some (cA, .object C)) (hl : Cond.classLink own idx C ∈ uw) (hao : va_AO C s) (N : Nat) {z : Int} (hz : z = (N : Int)) (hb : N ≤ 100000) (hr : cells + 1 ≤ R.cells ∧ slots + N ≤ R.slots) (hdg : decode cc pc = .ok (.anewarray idx, 3))
    (kk : ∀ (q : Nat) (H1 : Heap), va_P D vwCl (ws ++ [(q, .inl (cA, N, .inr (.inr (.inr (.inr (fun _ => none))))))]) H1 → va_D A (ws ++ [(q, .inl (cA, N, .inr (.inr (.inr (.inr (fun _ => none))))))]) → va_S A s.heap H1 locs → W p l e R s m args below meth c H1 locs (cells + 1) (slots + N) Q (F0 m (pc + 3) ls (.ref q :: rest))) : W p l e R s m args below meth c H locs cells slots Q (F0 m pc ls (.int (iI z) :: rest)) := by
  subst hz
  have hrg : rg (N : Int) := ⟨by omega, by omega⟩
  refine va_newq F.1 F.2.1 F.2.2.2.1 (F.2.2.2.2 _ hl) hao hK.1 hP hD hS hA (iI_nn hrg (by omega)) (N' := N) (by rw [iI_cl hrg]; rfl) (by omega) hr.1 hr.2 hdg fun q cA' H1 hK1 hP1 hD1 hS1 => ?_
  have ec : cA' = cA := by
    obtain ⟨k1, c1, -, -, -, e1⟩ := (hK.1.2 t0 _ ht).2
    obtain ⟨k2, c2, -, -, -, e2⟩ := (hK1.2 (tyN cy).length (cA', .object C) (by rw [List.getElem?_append_right (Nat.le_refl _)]; simp)).2
    exact Option.some.inj (e2.symm.trans e1)
  subst ec
  exact kk q H1 hP1 hD1 hS1
theorem n_new (F : CallFix p m c cc nL s args uw own) (hK : nK D cy s) (hP : va_P D vwCl ws H) (hD : va_D A ws) (hS : va_S A s.heap H locs) (hA : ∀ q, s.heap.size ≤ q → A q) {C : String} {T : u_T} {N ci : Nat} (hc : vwCl[ci]? = some (C, T, N)) (hin : ∀ w ∈ u_ws C T N, w ∈ uw) (ty : Nat → FieldType) (hty : ∀ k, k < N → parseFieldDescriptor (T k).2.2.1 = some (ty k)) (hl : Cond.classLink own idx C ∈ uw) (hinst : Cond.instantiable C N ∈ uw) (hini : Cond.initialized C ∈ uw) {fs : List Value} (hfs : ∀ j, j < N → defaultValue (ty j) = vp_V fs j) (hr : cells + 1 ≤ R.cells ∧ slots + N ≤ R.slots) (hdg : decode cc pc = .ok (.new idx, 3))
    (kk : ∀ (q : Nat) (H1 : Heap), q = H.size → va_P D vwCl (ws ++ [(q, .inr (ci, fs))]) H1 → va_D A (ws ++ [(q, .inr (ci, fs))]) → va_S A s.heap H1 locs → (∀ q : Nat, q < H.size → H1[q]? = H[q]?) → H1.size = H.size + 1 → W p l e R s m args below meth c H1 locs (cells + 1) (slots + N) Q (F0 m (pc + 3) ls (.ref q :: rest))) : W p l e R s m args below meth c H locs cells slots Q (F0 m pc ls rest) := by
  have hts := F.2.2.2.2
  have hKn := hK.1.1 ci _ hc
  refine W.newcK F.1 F.2.1 F.2.2.2.1 (hts _ hl) (hts _ hinst) (hts _ hini) rfl hdg hr.1 hr.2 hKn.2.1 rfl fun H1 kC hkC e1 z1 o1 => ?_
  have hk : ∀ (k : Nat) (x : Nat × va_E), ws[k]? = some x → H1[x.1]? = H[x.1]? := fun k x hx => o1 x.1 ((hP k x hx).lt)
  refine kk H.size H1 rfl ((hP.kept hk).app (va_P1 ?_)) (hD.push hP rfl (hA _ hS.1)) ⟨Nat.le_trans hS.1 (by omega), fun x h1 h2 => (o1 x (Nat.lt_of_lt_of_le h1 hS.1)).trans (hS.2.1 x h1 h2), hS.2.2⟩ o1 z1
  exact ⟨_, hc, (u_born ty hts hin hKn hkC e1 hty).to hfs⟩
theorem n_put (F : CallFix p m c cc nL s args uw own) (hK : nK D cy s) (hP : va_P D vwCl ws H) (hD : va_D A ws) (hS : va_S A s.heap H locs) {C ref : String} {T : u_T} {N ci : Nat} (hc : vwCl[ci]? = some (C, T, N)) (hin : ∀ w ∈ u_ws C T N, w ∈ uw) (ty : Nat → FieldType) (hty : ∀ k, k < N → parseFieldDescriptor (T k).2.2.1 = some (ty k)) (hnm : ∀ a, a < N → ∀ b, b < N → a ≠ b → (T a).2.1 ≠ (T b).2.1) (q0 : Nat) {a : Nat} {fs : List Value} (he : ws[q0]? = some (a, .inr (ci, fs))) (k : Nat) (hk : k < N) (hl : Cond.fieldLink own idx ref (T k).2.1 (T k).2.2.1 ∈ uw) (hsame : ∀ x, s.fieldFound? (T k).1 (T k).2.1 (T k).2.2.1 = some x → s.fieldFound? ref (T k).2.1 (T k).2.2.1 = some x) (hfin : (T k).2.2.2 = false ∨ ((T k).2.2.2 = true ∧ (T k).1 = own)) (hi : meth.name = "<init>") {v : Value} (hn : narrow (ty k) v = v) (hfit : fits (ty k) v = true) (hlen : k < fs.length) (hdg : decode cc pc = .ok (.putfield idx, 3))
    (kk : ∀ (H1 : Heap) (locs1 : List Loc), va_P D vwCl (ws.set q0 (a, .inr (ci, fs.set k v))) H1 → va_D A (ws.set q0 (a, .inr (ci, fs.set k v))) → va_S A s.heap H1 locs1 → W p l e R s m args below meth c H1 locs1 cells slots Q (F0 m (pc + 3) ls rest)) : W p l e R s m args below meth c H locs cells slots Q (F0 m pc ls (v :: .ref a :: rest)) := by
  rcases hfin with hf | ⟨hf, ho⟩
  · exact va_put F.1 F.2.1 F.2.2.2.2 hin ty hty hnm F.2.2.2.1 hK.1 hP hD hS q0 he hc k hk (F.2.2.2.2 _ hl) hsame hf (hty k hk) hn hfit hlen hdg kk
  · exact va_putF F.1 F.2.1 F.2.2.2.2 hin ty hty hnm F.2.2.2.1 hK.1 hP hD hS q0 he hc k hk (F.2.2.2.2 _ hl) hsame hf hi ho (hty k hk) hn hfit hlen hdg kk
theorem n_obj (F : CallFix p m c cc nL s args uw own) (hsz : ls.size = nL) (hl : Cond.methodLink own idx ⟨"java/lang/Object", "<init>", "()V"⟩ ∈ uw) {a : Nat} (hrest : (rest.map fun v => v.category).sum ≤ 8) (hR : 1 ≤ R.frames ∧ 20 ≤ R.locals) (hdg : decode cc pc = .ok (.invokespecial idx, 3)) (kk : W p l e R s m args below meth c H locs cells slots Q (F0 m (pc + 3) ls rest)) : W p l e R s m args below meth c H locs cells slots Q (F0 m pc ls (.ref a :: rest)) :=
  W.objInit F.1 F.2.1 F.2.2.2.1 (F.2.2.2.2 _ hl) (F.2.2.2.2 _ tw1_22) (F.2.2.2.2 _ tw1_23) rfl (by rw [F.2.2.1]; exact hsz) rfl hdg hR.1 (by show 2 * 0 + _ + 12 ≤ _; omega) kk
/-- behind a constructor's call: the object was the last of the world -/
theorem n_after {L1 : (Nat → Nat) → va_W} {b : Nat} {e0 : va_E} {st t : State} {α : Nat → Nat} (hP : va_P D vwCl (ws ++ [(b, e0)]) H) (hD : va_D A (ws ++ [(b, e0)])) (hF : ∀ q, va_A [(b, e0)] H.size q → A q) (h0 : st.heap = H) (hf : va_F (va_A [(b, e0)] H.size) st t) (h1 : va_P D vwCl (L1 α) t.heap) (h2 : va_D (va_A [(b, e0)] H.size) (L1 α)) : va_P D vwCl (ws ++ L1 α) t.heap ∧ va_D A (ws ++ L1 α) := by
  have hb : (ws ++ [(b, e0)])[ws.length]? = some (b, e0) := by rw [List.getElem?_append_right (Nat.le_refl _)]; simp
  have key : ∀ (k : Nat) (q : Nat × va_E), ws[k]? = some q → q.1 < H.size ∧ ¬ va_A [(b, e0)] H.size q.1 := by
    intro k q hq
    have hk : k < ws.length := (List.getElem?_eq_some_iff.mp hq).1
    have hq' : (ws ++ [(b, e0)])[k]? = some q := by rw [List.getElem?_append_left hk]; exact hq
    have hl := (hP k q hq').lt
    refine ⟨hl, fun h => ?_⟩
    rcases h with ⟨k2, e, h⟩ | h
    · have hz : k2 < 1 := (List.getElem?_eq_some_iff.mp h).1
      rw [show k2 = 0 by omega] at h
      cases h
      have := hD.1 k ws.length q _ hq' hb rfl
      omega
    · omega
  refine ⟨va_P.app (fun k q hq => ?_) h1, va_D.app ⟨fun i j x y hx hy hxy => ?_, fun k q hq => ?_⟩ (h2.weaken fun _ _ _ h => hF _ h) (fun i j x y hx hy hxy => ?_)⟩
  · have hk : k < ws.length := (List.getElem?_eq_some_iff.mp hq).1
    have hq' : (ws ++ [(b, e0)])[k]? = some q := by rw [List.getElem?_append_left hk]; exact hq
    obtain ⟨g1, g2⟩ := key k q hq
    exact (hP k q hq').kept (by rw [hf.2 q.1 (by rw [h0]; exact g1) g2, h0])
  · have hi : i < ws.length := (List.getElem?_eq_some_iff.mp hx).1
    have hj : j < ws.length := (List.getElem?_eq_some_iff.mp hy).1
    exact hD.1 i j x y (by rw [List.getElem?_append_left hi]; exact hx) (by rw [List.getElem?_append_left hj]; exact hy) hxy
  · have hk : k < ws.length := (List.getElem?_eq_some_iff.mp hq).1
    exact hD.2 k q (by rw [List.getElem?_append_left hk]; exact hq)
  · exact (key i x hx).2 (by rw [hxy]; exact h2.2 j y hy)
theorem n_free {b : Nat} {e0 : va_E} (hD : va_D A (ws ++ [(b, e0)])) (hS : va_S A s.heap H locs) (hA : ∀ q, s.heap.size ≤ q → A q) : ∀ q, va_A [(b, e0)] H.size q → A q := by
  intro q h
  rcases h with ⟨k2, e, h⟩ | h
  · have hz : k2 < 1 := (List.getElem?_eq_some_iff.mp h).1
    rw [show k2 = 0 by omega] at h
    cases h
    exact hD.2 ws.length (b, e0) (by rw [List.getElem?_append_right (Nat.le_refl _)]; simp)
  · exact hA q (Nat.le_trans hS.1 h)
theorem n_last {b : Nat} {e0 : va_E} (hP : va_P D vwCl (ws ++ [(b, e0)]) H) : va_P D vwCl [(b, e0)] H := va_P1 (hP ws.length _ (by rw [List.getElem?_append_right (Nat.le_refl _)]; simp))
theorem n_d1 {b : Nat} {e0 : va_E} : va_D (fun _ => True) [(b, e0)] := ⟨fun i j x y hx hy _ => by
    have h1 : i < 1 := (List.getElem?_eq_some_iff.mp hx).1
    have h2 : j < 1 := (List.getElem?_eq_some_iff.mp hy).1
    omega, fun _ _ _ => trivial⟩
theorem n_call {L1 : (Nat → Nat) → va_W} {As : List Value} {b : Nat} {e0 : va_E} (F : CallFix p m c cc nL s args uw own) (hM : Met l y (Cond.code y bytes maxL none :: uw) rm (nPc D cy b As H.size [(b, e0)]) (nQ D L1 (va_A [(b, e0)] H.size)) rm.cells rm.slots (va_A [(b, e0)] H.size)) (n : Nat) (hcode : Cond.code y bytes maxL none ∈ uw) (hini : Cond.initialized y.cls ∈ uw) (hst : Cond.instanceMethod y ∈ uw) (hl : Cond.methodLink own idx y ∈ uw) (hy : y.name = "<init>") (hd : y.cls ≠ "java/lang/invoke/MethodHandle" ∧ y.cls ≠ "java/lang/invoke/VarHandle" ∧ (parseMethodDescriptor y.desc).map (fun d => d.parameters.length) = some n) (hR : rm.frames + 1 ≤ R.frames ∧ 8 + (maxL + 11) + rm.locals ≤ R.locals)
    (hA : ∀ q, s.heap.size ≤ q → A q) (hK : nK D cy s) (hP : va_P D vwCl (ws ++ [(b, e0)]) H) (hD : va_D A (ws ++ [(b, e0)])) (hS : va_S A s.heap H locs) {st0 : List Value} (hlen : As.length = n) (hsz : ls.size = nL) (hst0 : st0 = As.reverse ++ .ref b :: rest) (hrm : (rest.map fun v => v.category).sum ≤ 8) (hdg : decode cc pc = .ok (.invokespecial idx, 3)) (hf : cells + rm.cells ≤ R.cells ∧ slots + rm.slots ≤ R.slots)
    (kk : ∀ (α : Nat → Nat) (H1 : Heap) (locs1 : List Loc), va_P D vwCl (ws ++ L1 α) H1 → va_D A (ws ++ L1 α) → va_S A s.heap H1 locs1 → W p l e R s m args below meth c H1 locs1 (cells + rm.cells) (slots + rm.slots) Q (F0 m (pc + 3) ls rest)) : W p l e R s m args below meth c H locs cells slots Q (F0 m pc ls st0) := by
  have hF := n_free hD hS hA
  refine call_gen (va_runI F hM (cwI n F.2.2.2.2 (uw_GoodIn hcode) rfl rfl rfl (F.2.2.2.2 _ hini) (F.2.2.2.2 _ hl) (F.2.2.2.2 _ hst) hy hd hR) ⟨nPc_blind, fun U hU hW => ⟨rfl, by rw [hU], by rw [hU]; exact n_last hP, hK.warm hW, n_d1⟩⟩ rfl hlen hsz hst0 (lv_room (m := m) (pc := pc) (ls := ls) (rest := st0) hrm) hdg hf) (nQ_F _) hF hS (fun v st t locs1 h0 hq hS1 => ?_)
  obtain ⟨⟨α, hv, h1, h2⟩, hf⟩ := hq
  cases hv
  obtain ⟨g1, g2⟩ := n_after hP hD hF h0 hf h1 h2
  exact kk α t.heap locs1 g1 g2 hS1
theorem n_callN {host : String} {L1 : (Nat → Nat) → va_W} {As : List Value} {b : Nat} {e0 : va_E} (F : CallFix p m c cc nL s args uw own) (hM : Met l y (Cond.code y bytes maxL none :: uw) rm (nPc D cy b As H.size [(b, e0)]) (nQ D L1 (va_A [(b, e0)] H.size)) rm.cells rm.slots (va_A [(b, e0)] H.size)) (n : Nat) (hcode : Cond.code y bytes maxL none ∈ uw) (hini : Cond.initialized y.cls ∈ uw) (hst : Cond.instanceMethod y ∈ uw) (hl : va_Nw (.methodLinkNest own idx y host) s) (hy : y.name = "<init>") (hd : y.cls ≠ "java/lang/invoke/MethodHandle" ∧ y.cls ≠ "java/lang/invoke/VarHandle" ∧ (parseMethodDescriptor y.desc).map (fun d => d.parameters.length) = some n) (hR : rm.frames + 1 ≤ R.frames ∧ 8 + (maxL + 11) + rm.locals ≤ R.locals)
    (hA : ∀ q, s.heap.size ≤ q → A q) (hK : nK D cy s) (hP : va_P D vwCl (ws ++ [(b, e0)]) H) (hD : va_D A (ws ++ [(b, e0)])) (hS : va_S A s.heap H locs) {st0 : List Value} (hlen : As.length = n) (hsz : ls.size = nL) (hst0 : st0 = As.reverse ++ .ref b :: rest) (hrm : (rest.map fun v => v.category).sum ≤ 8) (hdg : decode cc pc = .ok (.invokespecial idx, 3)) (hf : cells + rm.cells ≤ R.cells ∧ slots + rm.slots ≤ R.slots)
    (kk : ∀ (α : Nat → Nat) (H1 : Heap) (locs1 : List Loc), va_P D vwCl (ws ++ L1 α) H1 → va_D A (ws ++ L1 α) → va_S A s.heap H1 locs1 → W p l e R s m args below meth c H1 locs1 (cells + rm.cells) (slots + rm.slots) Q (F0 m (pc + 3) ls rest)) : W p l e R s m args below meth c H locs cells slots Q (F0 m pc ls st0) := by
  have hF := n_free hD hS hA
  refine call_gen (va_runIN F hM ⟨va_cnB n F.2.2.2.2 (uw_GoodIn hcode) rfl rfl rfl hl (F.2.2.2.2 _ hini) hd hR, hy, F.2.2.2.2 _ hst⟩ ⟨nPc_blind, fun U hU hW => ⟨rfl, by rw [hU], by rw [hU]; exact n_last hP, hK.warm hW, n_d1⟩⟩ rfl hlen hsz hst0 (lv_room (m := m) (pc := pc) (ls := ls) (rest := st0) hrm) hdg hf) (nQ_F _) hF hS (fun v st t locs1 h0 hq hS1 => ?_)
  obtain ⟨⟨α, hv, h1, h2⟩, hf⟩ := hq
  cases hv
  obtain ⟨g1, g2⟩ := n_after hP hD hF h0 hf h1 h2
  exact kk α t.heap locs1 g1 g2 hS1
/-- a constructor's walk gives its contract -/
theorem met_n {L0 : va_W} {L1 : (Nat → Nat) → va_W} {b sz : Nat} {As : List Value} (hy : plainName y.cls = true) (hlen : (lg_sl (.ref b :: As)).length ≤ maxL)
    (walk : ∀ (p : Program) (e : Env) (R : Room) (s : State) (m : MethodId) (args : Array Value) (below : List Frame) (meth : Method) (c : Code) (ls : Array Slot) (A : Nat → Prop), meth.sig.returnType = none → meth.locks = false → meth.name = y.name → R = rm → CallFix p m c bytes maxL s args uw y.cls → (∀ q : Nat, s.heap.size ≤ q → A q) → nK D cy s → va_P D vwCl L0 s.heap → va_D A L0 → va_S A s.heap s.heap [] → lv_has ls maxL (lv_args 0 (.ref b :: As)) →
      W p l e R s m args below meth c s.heap [] 0 0 (MQ below (nQ D L1 A) args s rm.cells rm.slots A) (F0 m 0 ls [])) :
    Met l y (Cond.code y bytes maxL none :: uw) rm (nPc D cy b As sz L0) (nQ D L1 (va_A L0 sz)) rm.cells rm.slots (va_A L0 sz) := by
  refine Met.ofW (cc := bytes) (maxL := maxL) (ret := none) hy rfl ?_
  intro p e s m args below meth c s₁ B hml hv
  obtain ⟨rfl, hsz, hP, hK, hD0⟩ := hv
  subst hsz
  have hts := atoms_spec (ws := Cond.code y bytes maxL none :: uw) B.pre
  have hown : s.vm.findClass y.cls = some m.cls := findClass_of_methodNamed B.named
  have hl := lv_entry (.ref b :: As) (n := maxL) hlen
  rw [lg_entry_eq]
  generalize (lg_sl (.ref b :: As) ++ List.replicate (maxL - (lg_sl (.ref b :: As)).length) Slot.unset).toArray = ls at hl ⊢
  exact walk p e _ s m _ below meth c ls _ B.returns B.notSynchronized (name_of_methodNamed B.named B.method).1 rfl ⟨B.exec, B.bytes, hml, hown, fun w h => hts w (List.mem_cons_of_mem _ h)⟩ (fun q h => Or.inr h) hK hP hD0.self va_S.rf hl
theorem n_ret {L1 : (Nat → Nat) → va_W} (F : CallFix p m c cc nL s args uw own) (hr : meth.sig.returnType = none) (hk : meth.locks = false) (α : Nat → Nat) (hP : va_P D vwCl (L1 α) H) (hD : va_D A (L1 α)) (hS : va_S A s.heap H locs) {mc ms : Nat} (hm : cells ≤ mc ∧ slots ≤ ms) (hdg : decode cc pc = .ok (.return_, 1)) : W p l e R s m args below meth c H locs cells slots (MQ below (nQ D L1 A) args s mc ms A) (F0 m pc ls []) :=
  W.widen hm.1 hm.2 (W.vret F.1 F.2.1 hr (fun t ht hW => ⟨⟨α, rfl, by rw [ht]; exact hP, hD⟩, hS.F ht⟩) hS.2.2 hdg hk)
end
