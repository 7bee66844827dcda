/-! the four calls that make a train -/
def wQG (K : Int → MM → GG → Prop) (D : va_G) (cy : Nat → ClassId) (ad : AD) (A : Nat → Prop) : Array Value → State → Outcome → State → Prop := fun _ st oc t => (∃ (v : Int) (u : MM) (G' : GG) (ad' : AD), oc = .returned (vI v) ∧ K v u G' ∧ ad' 0 0 = ad 0 0 ∧ okG G' ∧ gWH (dmC G') (cfC G') D cy ad' A u t.heap) ∧ va_F A st t
def KMk (G : GG) (kd N P : Int) (sv pv : Int → Int) (K : Int → MM → GG → Prop) (μ : MM) : Prop := mkOK G kd N P μ ∧ K (G 0 0) (ms (ms (mkM (G 0 0) N P sv pv μ) 21 0 (G 0 0) (G 0 0)) 0 2 0 (G 0 0 + 1)) (mkG G kd N P)
theorem wQG_F {K : Int → MM → GG → Prop} {D : va_G} {cy : Nat → ClassId} {ad : AD} {A : Nat → Prop} (a : Array Value) (st : State) (v : Option Value) (t : State) (h : wQG K D cy ad A a st (.returned v) t) : va_F A st t := h.2
theorem wQN_F {G : GG} {D : va_G} {cy : Nat → ClassId} {ad : AD} {A : Nat → Prop} {μ : MM} {N : Nat} {f : Nat → Int32} (a : Array Value) (st : State) (v : Option Value) (t : State) (h : wQN G D cy ad A μ N f a st (.returned v) t) : va_F A st t := h.2
theorem n_d2 {A : Nat → Prop} {a b : Nat} {e1 e2 : va_E} (h : a ≠ b) (ha : A a) (hb : A b) : va_D A [(a, e1), (b, e2)] := by
  refine ⟨fun i j x y hx hy hxy => ?_, fun k q hq => ?_⟩
  · match i, j, hx, hy with
    | 0, 0, _, _ => rfl
    | 1, 1, _, _ => rfl
    | 0, 1, hx, hy => cases hx; cases hy; exact absurd hxy h
    | 1, 0, hx, hy => cases hx; cases hy; exact absurd hxy.symm h
    | i + 2, _, hx, _ => simp at hx
    | _, j + 2, _, hy => simp at hy
  · match k, hq with
    | 0, hq => cases hq; exact ha
    | 1, hq => cases hq; exact hb
    | k + 2, hq => simp at hq
theorem n_p2 {D : va_G} {a b : Nat} {e1 e2 : va_E} {H : Heap} (h1 : va_at D vwCl (a, e1) H) (h2 : va_at D vwCl (b, e2) H) : va_P D vwCl [(a, e1), (b, e2)] H := (va_P1 h1).app (va_P1 h2)
section
variable {p : Program} {l : Launch} {e : Env} {R : Room} {s : State} {m : MethodId} {args : Array Value} {below : List Frame} {meth : Method} {c : Code} {H : Heap} {locs : List Loc} {Q : State → Prop} {cc : ByteArray} {pc nL : Nat} {ls : Array Slot} {rest : List Value} {own : String} {cells slots : Nat}
variable {D : va_G} {cy : Nat → ClassId} {ad : AD} {A A' : Nat → Prop} {μ : MM} {G : GG} {ws : va_W}
variable {y : MethodName} {bytes : ByteArray} {maxL idx n : Nat} {rt : Option FieldType} {rm : Room}
theorem call_V3 {Qc : Array Value → State → Outcome → State → Prop} {As : List Value} {b : Nat} (F : CallFix p m c cc nL s args uw own) (hM : Met l y (Cond.code y bytes maxL rt :: uw) rm (wPn (.ref b :: As) G D cy ad A' μ) Qc rm.cells rm.slots A') (hF : ∀ a st v t, Qc a st (.returned v) t → va_F A' st t) (n : Nat) (hcode : Cond.code y bytes maxL rt ∈ uw) (hini : Cond.initialized y.cls ∈ uw) (hst : Cond.instanceMethod y ∈ uw) (hsel : Cond.selects y.cls y y ∈ uw) (hl : Cond.methodLink own idx y ∈ uw) (hd : y.cls ≠ "java/lang/invoke/MethodHandle" ∧ y.cls ≠ "java/lang/invoke/VarHandle" ∧ (parseMethodDescriptor y.desc).map (fun d => d.parameters.length) = some n) (hR : rm.frames + 1 ≤ R.frames ∧ 8 + (maxL + 11) + rm.locals ≤ R.locals)
    (hrc : ∃ cell : Cell, H[b]? = some cell ∧ cell.vm.isStatics = false ∧ s.vm.findClass y.cls = some cell.cls)
    (hA : ∀ q : Nat, H.size ≤ q → A' q) (hAA : ∀ q, A' q → A q) (hK : nK D cy s) (hw : wdC G D cy ad A' μ s H) (hS : va_S A s.heap H locs) {st0 : List Value} (hlen : As.length = n) (hsz : ls.size = nL) (hst0 : st0 = As.reverse ++ .ref b :: rest) (hrm : (rest.map fun v => v.category).sum ≤ 8) (hdg : decode cc pc = .ok (.invokevirtual idx, 3)) (hf : cells + rm.cells ≤ R.cells ∧ slots + rm.slots ≤ R.slots)
    (kk : ∀ (v : Option Value) (st t : State) (locs1 : List Loc), st.heap = H → Qc (Value.ref b :: As).toArray st (.returned v) t → va_S A s.heap t.heap locs1 → W p l e R s m args below meth c t.heap locs1 (cells + rm.cells) (slots + rm.slots) Q (F0 m (pc + 3) ls (v.toList ++ rest))) : W p l e R s m args below meth c H locs cells slots Q (F0 m pc ls st0) :=
  call_gen (va_runV (C := y.cls) F hM ⟨cbX F n hcode hini hl hd hR, F.2.2.2.2 _ hst, F.2.2.2.2 _ hsel⟩ ⟨wPn_blind, hrc, fun U hU hW => ⟨rfl, fun q h => hA q (by rw [← hU]; exact h), by rw [hU]; exact hw.enter hexC hW, hK.warm hW⟩⟩ rfl hlen hsz hst0 (lv_room (m := m) (pc := pc) (ls := ls) (rest := st0) hrm) hdg hf) (hF _) hAA hS kk
theorem n_call2 {L1 : (Nat → Nat) → va_W} {As : List Value} {b : Nat} {e0 : va_E} (F : CallFix p m c cc nL s args uw own) (hM : Met l y (Cond.code y bytes maxL none :: uw) rm (nPc D cy b As H.size [(b, e0)]) (nQ D L1 (va_A [(b, e0)] H.size)) rm.cells rm.slots (va_A [(b, e0)] H.size)) (n : Nat) (hcode : Cond.code y bytes maxL none ∈ uw) (hini : Cond.initialized y.cls ∈ uw) (hst : Cond.instanceMethod y ∈ uw) (hl : Cond.methodLink own idx y ∈ uw) (hy : y.name = "<init>") (hd : y.cls ≠ "java/lang/invoke/MethodHandle" ∧ y.cls ≠ "java/lang/invoke/VarHandle" ∧ (parseMethodDescriptor y.desc).map (fun d => d.parameters.length) = some n) (hR : rm.frames + 1 ≤ R.frames ∧ 8 + (maxL + 11) + rm.locals ≤ R.locals)
    (hA : ∀ q, s.heap.size ≤ q → A q) (hK : nK D cy s) (hP : va_P D vwCl (ws ++ [(b, e0)]) H) (hD : va_D A (ws ++ [(b, e0)])) (hS : va_S A s.heap H locs) {st0 : List Value} (hlen : As.length = n) (hsz : ls.size = nL) (hst0 : st0 = As.reverse ++ .ref b :: rest) (hrm : (rest.map fun v => v.category).sum ≤ 8) (hdg : decode cc pc = .ok (.invokespecial idx, 3)) (hf : cells + rm.cells ≤ R.cells ∧ slots + rm.slots ≤ R.slots)
    (kk : ∀ (α : Nat → Nat) (H1 : Heap) (locs1 : List Loc), va_P D vwCl (ws ++ L1 α) H1 → va_D A (ws ++ L1 α) → va_S A s.heap H1 locs1 → (∀ q, q < H.size → q ≠ b → H1[q]? = H[q]?) → W p l e R s m args below meth c H1 locs1 (cells + rm.cells) (slots + rm.slots) Q (F0 m (pc + 3) ls rest)) : W p l e R s m args below meth c H locs cells slots Q (F0 m pc ls st0) := by
  have hF := n_free hD hS hA
  refine call_gen (va_runI F hM (cwI n F.2.2.2.2 (uw_GoodIn hcode) rfl rfl rfl (F.2.2.2.2 _ hini) (F.2.2.2.2 _ hl) (F.2.2.2.2 _ hst) hy hd hR) ⟨nPc_blind, fun U hU hW => ⟨rfl, by rw [hU], by rw [hU]; exact n_last hP, hK.warm hW, n_d1⟩⟩ rfl hlen hsz hst0 (lv_room (m := m) (pc := pc) (ls := ls) (rest := st0) hrm) hdg hf) (nQ_F _) hF hS (fun v st t locs1 h0 hq hS1 => ?_)
  obtain ⟨⟨α, hv, h1, h2⟩, hf⟩ := hq
  cases hv
  obtain ⟨g1, g2⟩ := n_after hP hD hF h0 hf h1 h2
  refine kk α t.heap locs1 g1 g2 hS1 (fun q hq hne => ?_)
  rw [hf.2 q (by rw [h0]; exact hq) (fun z => ?_), h0]
  rcases z with ⟨k2, e, z⟩ | z
  · have hz : k2 < 1 := (List.getElem?_eq_some_iff.mp z).1
    rw [show k2 = 0 by omega] at z
    cases z
    exact hne rfl
  · omega
theorem retG_of {K : Int → MM → GG → Prop} {mc ms : Nat} (F : CallFix p m c cc nL s args uw own) (hr : meth.sig.returnType = some .int) (hk : meth.locks = false) : RetI p l e R s m args below meth c cc (MQ below (wQG K D cy ad A) args s mc ms A) (dmC G) (cfC G) tyC (exC G) D cy ad A (fun v u => K v u G) :=
  fun v u H locs pc ls hK hw hS hdg => W.widen (Nat.zero_le _) (Nat.zero_le _) (W.iret F.1 F.2.1 hr (fun t ht hW => ⟨⟨v, u, G, ad, rfl, hK, rfl, hw.2.1.2.1, by rw [ht]; exact hw.toH⟩, hS.F ht⟩) hS.2.2 hdg hk)
theorem mk_end {K : Int → MM → GG → Prop} {kd N P : Int} {sv pv : Int → Int} {q0 q1 q2 mc ms0 : Nat} (F : CallFix p m c cc nL s args uw RX10) (hr : meth.sig.returnType = some .int) (hk : meth.locks = false) (hA : ∀ q : Nat, s.heap.size ≤ q → A q) (hR : 1 ≤ R.frames ∧ 21 ≤ R.locals ∧ cells ≤ R.cells ∧ slots ≤ R.slots) (h : KMk G kd N P sv pv K μ) (hw : wdC (mkG G kd N P) D cy (mkA ad (G 0 0) q0 q1 q2) A (mkM (G 0 0) N P sv pv μ) s H) (hS : va_S A s.heap H locs) (hsz : ls.size = nL) (hm : cells ≤ mc ∧ slots ≤ ms0) (hdg : decode cc pc = .ok (.invokevirtual 104, 3)) (hdg2 : decode cc (pc + 3) = .ok (.ireturn, 1)) : W p l e R s m args below meth c H locs cells slots (MQ below (wQG K D cy ad A) args s mc ms0 A) (F0 m pc ls [.ref q0, .ref (ad 0 0)]) := by
  obtain ⟨ok, hK⟩ := h
  have e0 : mkA ad (G 0 0) q0 q1 q2 2 (G 0 0) = q0 := by simp [mkA]
  have e1 : mkA ad (G 0 0) q0 q1 q2 0 0 = ad 0 0 := mkA_o (by decide) 0
  have e2 : mkM (G 0 0) N P sv pv μ 0 2 0 = G 0 0 := by rw [mkM_o (by decide)]; exact ok.1.1
  have hkp : wpX10_keep (mkG G kd N P) (G 0 0) (mkM (G 0 0) N P sv pv μ) (fun v u => v = G 0 0 ∧ u = ms (ms (mkM (G 0 0) N P sv pv μ) 21 0 (G 0 0) (G 0 0)) 0 2 0 (G 0 0 + 1)) := by
    unfold wpX10_keep
    rw [e2]
    have o := ok.1
    refine ⟨⟨by omega, by omega⟩, ite_n (by omega) (ite_p (by omega) ⟨o.2.1, o.2.2, fun μ6 h6 μ7 h7 => ⟨rfl, ?_⟩⟩)⟩
    rw [h7, h6]
    have e3 : ms (mkM (G 0 0) N P sv pv μ) 21 0 (G 0 0) (G 0 0) 0 2 0 = G 0 0 := by rw [ms_ne (by decide)]; exact e2
    rw [e3]
  have hgo : F0 m pc ls [.ref q0, .ref (ad 0 0)] = F0 m pc ls ([Value.ref (mkA ad (G 0 0) q0 q1 q2 2 (G 0 0))].reverse ++ Value.ref (mkA ad (G 0 0) q0 q1 q2 0 0) :: []) := by rw [e0, e1]; rfl
  rw [hgo]
  refine call_V2 (A := A) (A' := A) (cells := cells) (slots := slots) hexC F (kX10_keep hkp ⟨ok.1.2.1, by rw [mkG_0]; omega⟩) wQ_F 1 tw2_145 tw1_1 tw2_144 tws1_2 tw2_142 hdX10_keep ⟨hR.1, hR.2.1⟩ (hw.recv (k := 0) (i := 0) rfl rfl rfl) (fun q hq => hA q (Nat.le_trans hS.1 hq)) (fun _ h => h) hw hS rfl hsz rfl (Nat.le_of_ble_eq_true rfl) hdg ⟨hR.2.2.1, hR.2.2.2⟩ (fun v st t locs1 hst hq hS1 => ?_)
  obtain ⟨⟨v0, u, hv, ⟨a1, a2⟩, hg⟩, hF⟩ := hq
  cases hv
  subst a1
  subst a2
  exact W.widen hm.1 hm.2 (W.iret F.1 F.2.1 hr (fun t' ht hW => ⟨⟨_, _, _, _, rfl, hK, e1, hw.2.1.2.1, by rw [ht]; exact hg⟩, hS1.F ht⟩) hS1.2.2 hdg2 hk)
end

theorem hdX6_asNumbers : yX6_asNumbers.cls ≠ "java/lang/invoke/MethodHandle" ∧ yX6_asNumbers.cls ≠ "java/lang/invoke/VarHandle" ∧ (parseMethodDescriptor yX6_asNumbers.desc).map (fun d => d.parameters.length) = some 1 := by decide +kernel
section
variable {p : Program} {l : Launch} {e : Env} {R : Room} {s : State} {m : MethodId} {args : Array Value} {below : List Frame} {meth : Method} {c : Code} {H : Heap} {locs : List Loc} {ls : Array Slot} {D : va_G} {cy : Nat → ClassId} {ad : AD} {A : Nat → Prop} {μ : MM} {G : GG} {K : Int → MM → GG → Prop}

set_option maxRecDepth 100000 in
set_option maxHeartbeats 4000000 in
theorem wtrain_mk (F : CallFix p m c cX10_train 1 s args uw RX10) (hr : meth.sig.returnType = some .int) (hk : meth.locks = false) (hA : ∀ q : Nat, s.heap.size ≤ q → A q) (hK : nK D cy s) (hR : R = { frames := 2, cells := 2, slots := 14, locals := 43 }) (h : KMk G 0 0 0 (fun _ => 0) (fun _ => 0) K μ) (hw : wdC G D cy ad A μ s H) (hS : va_S A s.heap H locs) (hl : lv_has ls 1 [(0, .ref (ad 0 0))]) : W p l e R s m args below meth c H locs 0 0 (MQ below (wQG K D cy ad A) args s 2 14 A) (F0 m 15 ls []) := by
  subst hR
  have hx := F.1
  have hb := F.2.1
  have hS0 := hS.1
  have ok := h.1
  refine lv_aload_n hx hb dX10_train_15 rfl (lv_at hl 0 rfl) ?_
  refine n_new (ws := []) (ci := 9) (fs := [.int (iI 0), .int (iI 0), .null, .int (iI 0), .int (iI 0), .int (iI 0), .int (iI 0), .int (iI 0), .int (iI 0), .int (iI 0), .int (iI 0), .int (iI 0), .int (iI 0), .int (iI 0)]) F hK (fun k q h => by simp at h) ⟨fun i j p q h => by simp at h, fun k q h => by simp at h⟩ hS hA rfl inU9 tyX9 tyX9_ok tw1_26 tw2_63 tw1_11 dfN9 ⟨Nat.le_of_ble_eq_true rfl, Nat.le_of_ble_eq_true rfl⟩ dX10_train_16 (fun q0 H1 hq0 hP hD hS hsame hsz => ?_)
  have hw1 := hw.same (H1 := H1) (fun k i hd => hsame _ (hw.lt hd))
  refine lv_dup hx hb dX10_train_19 rfl ?_
  refine lv_aload_n hx hb dX10_train_20 rfl (lv_at hl 0 rfl) ?_
  refine gC_H_trainCount F hw1 tw1_208 dX10_train_21 ?_
  refine q_iconst hx hb dX10_train_24 ?_
  refine q_iconst hx hb dX10_train_25 ?_
  refine n_newa (atype := .int) (cA := cy 0) F hK hP hD hS hA 0 rfl tw1_44 rfl rfl 0 rfl rfl ⟨by decide, by decide⟩ ⟨Nat.le_of_ble_eq_true rfl, Nat.le_of_ble_eq_true rfl⟩ dX10_train_26 (fun q1 H2 hq1 hP2 hD2 hS2 hsame2 hsz2 => ?_)
  have hw2 := hw1.same (H1 := H2) (fun k i hd => hsame2 _ (hw1.lt hd))
  have hne : q1 ≠ q0 := by omega
  have hA0 : A q0 := hA q0 (by rw [hq0]; exact hS0)
  have hA1 : A q1 := hA q1 (by rw [hq1]; exact Nat.le_trans hS.1 (by omega))
  refine n_call2 (ws := [(q1, .inl (cy 0, 0, .inl (fun _ => iI 0)))]) (rest := [.ref q0, .ref (ad 0 0)]) F (nX9_init_9 (cy := cy) (b := q0) (x1 := μ 0 2 0) (x2 := 0) (x3 := q1)) 3 tw2_66 tw1_11 tw2_65 tw2_64 rfl hdX9_init ⟨Nat.le_of_ble_eq_true rfl, Nat.le_of_ble_eq_true rfl⟩ hA hK (n_p2 (hP2 1 _ rfl) (hP2 0 _ rfl)) (n_d2 hne hA1 hA0) hS2 rfl hl.1 rfl (Nat.le_of_ble_eq_true rfl) dX10_train_28 ⟨Nat.le_of_ble_eq_true rfl, Nat.le_of_ble_eq_true rfl⟩ (fun α H3 locs3 hP3 hD3 hS3 hfr => ?_)
  have old : ∀ (k : Nat) (i : Int), dmC G k (μ k) i → ad k i ≠ q0 ∧ ad k i ≠ q1 ∧ ((0 : Int) = 3 → ad k i ≠ 0) := fun k i hd => by have := hw.lt hd; exact ⟨by omega, by omega, (fun h => absurd h (by decide))⟩
  have hw3 := hw2.same (H1 := H3) (fun k i hd => hfr _ (hw2.lt hd) (old k i hd).1)
  have ec : cfT (mkG G 0 (0) (0)) (mkA ad (G 0 0) q0 q1 0) (mkM (G 0 0) (0) (0) (fun _ => 0) (fun _ => 0) μ 2) (G 0 0) = .inr (9, [.int (iI (G 0 0)), .int (iI 0), .ref q1, .int (iI 30), .int (iI 1000), .int (iI 1000), .int (iI 0), .int (iI 0), .int (iI 0), .int (iI (-9)), .int (iI 0), .int (iI 0), .int (iI 0), .int (iI 0)]) := by simp [cfT, mkG_1, mkA, mkM, mkT]
  have c0 : va_at D vwCl (q0, .inr (9, [.int (iI (G 0 0)), .int (iI 0), .ref q1, .int (iI 30), .int (iI 1000), .int (iI 1000), .int (iI 0), .int (iI 0), .int (iI 0), .int (iI (-9)), .int (iI 0), .int (iI 0), .int (iI 0), .int (iI 0)])) H3 := by rw [← ok.1.1]; exact hP3 1 _ rfl
  have hmk := make_w (sv := (fun _ => 0)) (pv := (fun _ => 0)) (A := A) (q0 := q0) (q1 := q1) (q2 := 0) ok hw3 (fun q h => h) old ⟨fun h => hne h.symm, (fun h => absurd h (by decide))⟩ ⟨hA0, hA1, (fun h => absurd h (by decide))⟩ (by rw [ec]; exact c0) (hP3 0 _ rfl) (fun h => absurd h (by decide))
  exact mk_end F hr hk hA ⟨Nat.le_of_ble_eq_true rfl, Nat.le_of_ble_eq_true rfl, Nat.le_of_ble_eq_true rfl, Nat.le_of_ble_eq_true rfl⟩ h hmk hS3 hl.1 ⟨Nat.le_of_ble_eq_true rfl, Nat.le_of_ble_eq_true rfl⟩ dX10_train_31 dX10_train_34
set_option maxRecDepth 100000 in
set_option maxHeartbeats 4000000 in
theorem wplate_mk {x3 : Int} (F : CallFix p m c cX10_plate 4 s args uw RX10) (hr : meth.sig.returnType = some .int) (hk : meth.locks = false) (hA : ∀ q : Nat, s.heap.size ≤ q → A q) (hK : nK D cy s) (hR : R = { frames := 3, cells := 2, slots := 63, locals := 66 }) (hi_x3 : 0 ≤ x3 ∧ x3 < 8) (h : (0 ≤ μ 1 1 x3 ∧ μ 1 1 x3 ≤ 24) ∧ KMk G 1 (μ 1 1 x3) 0 (fun j => iand (μ 8 0 (48 * x3 + j)) (-1)) (fun _ => 0) K μ) (hw : wdC G D cy ad A μ s H) (hS : va_S A s.heap H locs) (hl : lv_has ls 4 [(0, .ref (ad 0 0)), (3, .ref (ad 1 x3))]) : W p l e R s m args below meth c H locs 0 0 (MQ below (wQG K D cy ad A) args s 2 63 A) (F0 m 23 ls []) := by
  subst hR
  have hx := F.1
  have hb := F.2.1
  have hS0 := hS.1
  obtain ⟨hN, h⟩ := h
  have ok := h.1
  refine lv_aload_n hx hb dX10_plate_23 rfl (lv_at hl 0 rfl) ?_
  refine n_new (ws := []) (ci := 4) (fs := [.int (iI 0), .int (iI 0), .null, .int (iI 0), .int (iI 0), .int (iI 0), .int (iI 0), .int (iI 0), .int (iI 0), .int (iI 0), .int (iI 0), .int (iI 0), .int (iI 0), .int (iI 0), .int (iI 0)]) F hK (fun k q h => by simp at h) ⟨fun i j p q h => by simp at h, fun k q h => by simp at h⟩ hS hA rfl inU4 tyX4 tyX4_ok tw2_159 tw2_160 tw1_12 dfN4 ⟨Nat.le_of_ble_eq_true rfl, Nat.le_of_ble_eq_true rfl⟩ dX10_plate_24 (fun q0 H1 hq0 hP hD hS hsame hsz => ?_)
  have hw1 := hw.same (H1 := H1) (fun k i hd => hsame _ (hw.lt hd))
  have hA0 : A q0 := hA q0 (by rw [hq0]; exact hS0)
  have hw1 : wdC G D cy ad (fun q => A q ∧ q ≠ q0) μ s H1 := hw1.less (fun k i hd => ⟨hw.2.2.2 k i hd, by have := hw.lt hd; omega⟩)
  refine lv_dup hx hb dX10_plate_27 rfl ?_
  refine lv_aload_n hx hb dX10_plate_28 rfl (lv_at hl 0 rfl) ?_
  refine gC_H_trainCount F hw1 tw1_208 dX10_plate_29 ?_
  refine q_iconst hx hb dX10_plate_32 ?_
  refine lv_aload_n hx hb dX10_plate_33 rfl (lv_at hl 1 rfl) ?_
  refine q_iconst hx hb dX10_plate_34 ?_
  refine call_V3 (A := A) (A' := fun q => A q ∧ q ≠ q0) (rest := [.int (iI 1), .int (iI (μ 0 2 0)), .ref q0, .ref q0, .ref (ad 0 0)]) F (kAs (x1 := -1) hi_x3 (by omega) (by omega)) wQN_F 1 tw2_164 tw1_5 tw2_162 tw2_163 tw2_161 hdX6_asNumbers ⟨Nat.le_of_ble_eq_true rfl, Nat.le_of_ble_eq_true rfl⟩ (hw1.recv (k := 1) (i := x3) hi_x3 rfl rfl) (fun q hq => ⟨hA q (Nat.le_trans hS.1 hq), by omega⟩) (fun q h => h.1) hK hw1 hS rfl hl.1 rfl (Nat.le_of_ble_eq_true rfl) dX10_plate_35 ⟨Nat.le_of_ble_eq_true rfl, Nat.le_of_ble_eq_true rfl⟩ (fun v st t locs2 hst hq hS2 => ?_)
  obtain ⟨⟨q1, hv, hq1, hc1, hg, hne1⟩, hF⟩ := hq
  cases hv
  have hw2 := hw1.ofH hg
  have hc0 : va_at D vwCl (q0, .inr (4, [.int (iI 0), .int (iI 0), .null, .int (iI 0), .int (iI 0), .int (iI 0), .int (iI 0), .int (iI 0), .int (iI 0), .int (iI 0), .int (iI 0), .int (iI 0), .int (iI 0), .int (iI 0), .int (iI 0)])) t.heap := (hP 0 _ rfl).kept (by rw [hF.2 q0 (by rw [hst]; omega) (fun z => z.2 rfl), hst])
  rw [hst] at hq1
  have hne : q1 ≠ q0 := by omega
  have hA1 : A q1 := hA q1 (Nat.le_trans hS.1 hq1)
  refine n_call2 (ws := [(q1, .inl (cy 0, (μ 1 1 x3).toNat, .inl (asF μ x3 (-1))))]) (rest := [.ref q0, .ref (ad 0 0)]) F (nX4_init_4 (cy := cy) (b := q0) (x1 := μ 0 2 0) (x2 := 1) (x3 := q1)) 3 tw2_170 tw1_12 tw2_169 tw2_168 rfl hdX4_init ⟨Nat.le_of_ble_eq_true rfl, Nat.le_of_ble_eq_true rfl⟩ hA hK (n_p2 hc1 hc0) (n_d2 hne hA1 hA0) hS2 rfl hl.1 rfl (Nat.le_of_ble_eq_true rfl) dX10_plate_38 ⟨Nat.le_of_ble_eq_true rfl, Nat.le_of_ble_eq_true rfl⟩ (fun α H3 locs3 hP3 hD3 hS3 hfr => ?_)
  have old : ∀ (k : Nat) (i : Int), dmC G k (μ k) i → ad k i ≠ q0 ∧ ad k i ≠ q1 ∧ ((1 : Int) = 3 → ad k i ≠ 0) := fun k i hd => ⟨(hw2.2.2.2 k i hd).2, hne1 k i hd, (fun h => absurd h (by decide))⟩
  have hw3 := hw2.same (H1 := H3) (fun k i hd => hfr _ (hw2.lt hd) (old k i hd).1)
  have ec : cfT (mkG G 1 (μ 1 1 x3) (0)) (mkA ad (G 0 0) q0 q1 0) (mkM (G 0 0) (μ 1 1 x3) (0) (fun j => iand (μ 8 0 (48 * x3 + j)) (-1)) (fun _ => 0) μ 2) (G 0 0) = .inr (4, [.int (iI (G 0 0)), .int (iI 1), .ref q1, .int (iI 30), .int (iI 1000), .int (iI 1000), .int (iI 0), .int (iI 0), .int (iI 0), .int (iI (-9)), .int (iI 0), .int (iI 0), .int (iI 0), .int (iI 0), .int (iI 0)]) := by simp [cfT, mkG_1, mkA, mkM, mkT]
  have c0 : va_at D vwCl (q0, .inr (4, [.int (iI (G 0 0)), .int (iI 1), .ref q1, .int (iI 30), .int (iI 1000), .int (iI 1000), .int (iI 0), .int (iI 0), .int (iI 0), .int (iI (-9)), .int (iI 0), .int (iI 0), .int (iI 0), .int (iI 0), .int (iI 0)])) H3 := by rw [← ok.1.1]; exact hP3 1 _ rfl
  have hmk := make_w (sv := (fun j => iand (μ 8 0 (48 * x3 + j)) (-1))) (pv := (fun _ => 0)) (A := A) (q0 := q0) (q1 := q1) (q2 := 0) ok hw3 (fun q h => h.1) old ⟨fun h => hne h.symm, (fun h => absurd h (by decide))⟩ ⟨hA0, hA1, (fun h => absurd h (by decide))⟩ (by rw [ec]; exact c0) (hP3 0 _ rfl) (fun h => absurd h (by decide))
  exact mk_end F hr hk hA ⟨Nat.le_of_ble_eq_true rfl, Nat.le_of_ble_eq_true rfl, Nat.le_of_ble_eq_true rfl, Nat.le_of_ble_eq_true rfl⟩ h hmk hS3 hl.1 ⟨Nat.le_of_ble_eq_true rfl, Nat.le_of_ble_eq_true rfl⟩ dX10_plate_41 dX10_plate_44
set_option maxRecDepth 100000 in
set_option maxHeartbeats 4000000 in
theorem wsnail_mk {x3 : Int} (F : CallFix p m c cX10_snail 4 s args uw RX10) (hr : meth.sig.returnType = some .int) (hk : meth.locks = false) (hA : ∀ q : Nat, s.heap.size ≤ q → A q) (hK : nK D cy s) (hR : R = { frames := 3, cells := 2, slots := 62, locals := 66 }) (hi_x3 : 0 ≤ x3 ∧ x3 < 8) (h : (0 ≤ μ 1 1 x3 ∧ μ 1 1 x3 ≤ 24) ∧ KMk G 2 (μ 1 1 x3) 0 (fun j => iand (μ 8 0 (48 * x3 + j)) (-1)) (fun _ => 0) K μ) (hw : wdC G D cy ad A μ s H) (hS : va_S A s.heap H locs) (hl : lv_has ls 4 [(0, .ref (ad 0 0)), (3, .ref (ad 1 x3))]) : W p l e R s m args below meth c H locs 0 0 (MQ below (wQG K D cy ad A) args s 2 62 A) (F0 m 23 ls []) := by
  subst hR
  have hx := F.1
  have hb := F.2.1
  have hS0 := hS.1
  obtain ⟨hN, h⟩ := h
  have ok := h.1
  refine lv_aload_n hx hb dX10_snail_23 rfl (lv_at hl 0 rfl) ?_
  refine n_new (ws := []) (ci := 7) (fs := [.int (iI 0), .int (iI 0), .null, .int (iI 0), .int (iI 0), .int (iI 0), .int (iI 0), .int (iI 0), .int (iI 0), .int (iI 0), .int (iI 0), .int (iI 0), .int (iI 0), .int (iI 0)]) F hK (fun k q h => by simp at h) ⟨fun i j p q h => by simp at h, fun k q h => by simp at h⟩ hS hA rfl inU7 tyX7 tyX7_ok tw2_196 tw2_197 tw1_14 dfN7 ⟨Nat.le_of_ble_eq_true rfl, Nat.le_of_ble_eq_true rfl⟩ dX10_snail_24 (fun q0 H1 hq0 hP hD hS hsame hsz => ?_)
  have hw1 := hw.same (H1 := H1) (fun k i hd => hsame _ (hw.lt hd))
  have hA0 : A q0 := hA q0 (by rw [hq0]; exact hS0)
  have hw1 : wdC G D cy ad (fun q => A q ∧ q ≠ q0) μ s H1 := hw1.less (fun k i hd => ⟨hw.2.2.2 k i hd, by have := hw.lt hd; omega⟩)
  refine lv_dup hx hb dX10_snail_27 rfl ?_
  refine lv_aload_n hx hb dX10_snail_28 rfl (lv_at hl 0 rfl) ?_
  refine gC_H_trainCount F hw1 tw1_208 dX10_snail_29 ?_
  refine lv_aload_n hx hb dX10_snail_32 rfl (lv_at hl 1 rfl) ?_
  refine q_iconst hx hb dX10_snail_33 ?_
  refine call_V3 (A := A) (A' := fun q => A q ∧ q ≠ q0) (rest := [.int (iI (μ 0 2 0)), .ref q0, .ref q0, .ref (ad 0 0)]) F (kAs (x1 := -1) hi_x3 (by omega) (by omega)) wQN_F 1 tw2_164 tw1_5 tw2_162 tw2_163 tw2_161 hdX6_asNumbers ⟨Nat.le_of_ble_eq_true rfl, Nat.le_of_ble_eq_true rfl⟩ (hw1.recv (k := 1) (i := x3) hi_x3 rfl rfl) (fun q hq => ⟨hA q (Nat.le_trans hS.1 hq), by omega⟩) (fun q h => h.1) hK hw1 hS rfl hl.1 rfl (Nat.le_of_ble_eq_true rfl) dX10_snail_34 ⟨Nat.le_of_ble_eq_true rfl, Nat.le_of_ble_eq_true rfl⟩ (fun v st t locs2 hst hq hS2 => ?_)
  obtain ⟨⟨q1, hv, hq1, hc1, hg, hne1⟩, hF⟩ := hq
  cases hv
  have hw2 := hw1.ofH hg
  have hc0 : va_at D vwCl (q0, .inr (7, [.int (iI 0), .int (iI 0), .null, .int (iI 0), .int (iI 0), .int (iI 0), .int (iI 0), .int (iI 0), .int (iI 0), .int (iI 0), .int (iI 0), .int (iI 0), .int (iI 0), .int (iI 0)])) t.heap := (hP 0 _ rfl).kept (by rw [hF.2 q0 (by rw [hst]; omega) (fun z => z.2 rfl), hst])
  rw [hst] at hq1
  have hne : q1 ≠ q0 := by omega
  have hA1 : A q1 := hA q1 (Nat.le_trans hS.1 hq1)
  refine n_call2 (ws := [(q1, .inl (cy 0, (μ 1 1 x3).toNat, .inl (asF μ x3 (-1))))]) (rest := [.ref q0, .ref (ad 0 0)]) F (nX7_init_7 (cy := cy) (b := q0) (x1 := μ 0 2 0) (x2 := q1)) 2 tw2_200 tw1_14 tw2_199 tw2_198 rfl hdX7_init ⟨Nat.le_of_ble_eq_true rfl, Nat.le_of_ble_eq_true rfl⟩ hA hK (n_p2 hc1 hc0) (n_d2 hne hA1 hA0) hS2 rfl hl.1 rfl (Nat.le_of_ble_eq_true rfl) dX10_snail_37 ⟨Nat.le_of_ble_eq_true rfl, Nat.le_of_ble_eq_true rfl⟩ (fun α H3 locs3 hP3 hD3 hS3 hfr => ?_)
  have old : ∀ (k : Nat) (i : Int), dmC G k (μ k) i → ad k i ≠ q0 ∧ ad k i ≠ q1 ∧ ((2 : Int) = 3 → ad k i ≠ 0) := fun k i hd => ⟨(hw2.2.2.2 k i hd).2, hne1 k i hd, (fun h => absurd h (by decide))⟩
  have hw3 := hw2.same (H1 := H3) (fun k i hd => hfr _ (hw2.lt hd) (old k i hd).1)
  have ec : cfT (mkG G 2 (μ 1 1 x3) (0)) (mkA ad (G 0 0) q0 q1 0) (mkM (G 0 0) (μ 1 1 x3) (0) (fun j => iand (μ 8 0 (48 * x3 + j)) (-1)) (fun _ => 0) μ 2) (G 0 0) = .inr (7, [.int (iI (G 0 0)), .int (iI 2), .ref q1, .int (iI 30), .int (iI 1000), .int (iI 1000), .int (iI 0), .int (iI 0), .int (iI 0), .int (iI (-9)), .int (iI 0), .int (iI 0), .int (iI 0), .int (iI 0)]) := by simp [cfT, mkG_1, mkA, mkM, mkT]
  have c0 : va_at D vwCl (q0, .inr (7, [.int (iI (G 0 0)), .int (iI 2), .ref q1, .int (iI 30), .int (iI 1000), .int (iI 1000), .int (iI 0), .int (iI 0), .int (iI 0), .int (iI (-9)), .int (iI 0), .int (iI 0), .int (iI 0), .int (iI 0)])) H3 := by rw [← ok.1.1]; exact hP3 1 _ rfl
  have hmk := make_w (sv := (fun j => iand (μ 8 0 (48 * x3 + j)) (-1))) (pv := (fun _ => 0)) (A := A) (q0 := q0) (q1 := q1) (q2 := 0) ok hw3 (fun q h => h.1) old ⟨fun h => hne h.symm, (fun h => absurd h (by decide))⟩ ⟨hA0, hA1, (fun h => absurd h (by decide))⟩ (by rw [ec]; exact c0) (hP3 0 _ rfl) (fun h => absurd h (by decide))
  exact mk_end F hr hk hA ⟨Nat.le_of_ble_eq_true rfl, Nat.le_of_ble_eq_true rfl, Nat.le_of_ble_eq_true rfl, Nat.le_of_ble_eq_true rfl⟩ h hmk hS3 hl.1 ⟨Nat.le_of_ble_eq_true rfl, Nat.le_of_ble_eq_true rfl⟩ dX10_snail_40 dX10_snail_43
set_option maxRecDepth 100000 in
set_option maxHeartbeats 4000000 in
theorem wbarrel_mk {x4 x5 : Int} (F : CallFix p m c cX10_barrel 6 s args uw RX10) (hr : meth.sig.returnType = some .int) (hk : meth.locks = false) (hA : ∀ q : Nat, s.heap.size ≤ q → A q) (hK : nK D cy s) (hR : R = { frames := 4, cells := 3, slots := 113, locals := 89 }) (hi_x4 : 0 ≤ x4 ∧ x4 < 8) (hi_x5 : 0 ≤ x5 ∧ x5 < 8) (h : ((0 ≤ μ 1 1 x4 ∧ μ 1 1 x4 ≤ 24) ∧ 0 ≤ μ 1 1 x5 ∧ μ 1 1 x5 ≤ 48) ∧ KMk G 3 (μ 1 1 x4) (μ 1 1 x5) (fun j => iand (μ 8 0 (48 * x4 + j)) (-1)) (fun j => iand (μ 8 0 (48 * x5 + j)) 255) K μ) (hw : wdC G D cy ad A μ s H) (hS : va_S A s.heap H locs) (hl : lv_has ls 6 [(0, .ref (ad 0 0)), (4, .ref (ad 1 x4)), (5, .ref (ad 1 x5))]) : W p l e R s m args below meth c H locs 0 0 (MQ below (wQG K D cy ad A) args s 3 113 A) (F0 m 37 ls []) := by
  subst hR
  have hx := F.1
  have hb := F.2.1
  have hS0 := hS.1
  obtain ⟨hN, h⟩ := h
  have ok := h.1
  refine lv_aload_n hx hb dX10_barrel_37 rfl (lv_at hl 0 rfl) ?_
  refine n_new (ws := []) (ci := 0) (fs := [.int (iI 0), .int (iI 0), .int (iI 0), .null, .int (iI 0), .int (iI 0), .int (iI 0), .int (iI 0), .int (iI 0), .int (iI 0), .int (iI 0), .int (iI 0), .int (iI 0), .int (iI 0), .int (iI 0), .null, .int (iI 0)]) F hK (fun k q h => by simp at h) ⟨fun i j p q h => by simp at h, fun k q h => by simp at h⟩ hS hA rfl inU0 tyX0 tyX0_ok tw2_221 tw2_222 tw1_15 dfN0 ⟨Nat.le_of_ble_eq_true rfl, Nat.le_of_ble_eq_true rfl⟩ dX10_barrel_38 (fun q0 H1 hq0 hP hD hS hsame hsz => ?_)
  have hw1 := hw.same (H1 := H1) (fun k i hd => hsame _ (hw.lt hd))
  have hA0 : A q0 := hA q0 (by rw [hq0]; exact hS0)
  have hw1 : wdC G D cy ad (fun q => A q ∧ q ≠ q0) μ s H1 := hw1.less (fun k i hd => ⟨hw.2.2.2 k i hd, by have := hw.lt hd; omega⟩)
  refine lv_dup hx hb dX10_barrel_41 rfl ?_
  refine lv_aload_n hx hb dX10_barrel_42 rfl (lv_at hl 0 rfl) ?_
  refine gC_H_trainCount F hw1 tw1_208 dX10_barrel_43 ?_
  refine lv_aload hx hb dX10_barrel_46 (lv_at hl 1 rfl) ?_
  refine q_iconst hx hb dX10_barrel_48 ?_
  refine call_V3 (A := A) (A' := fun q => A q ∧ q ≠ q0) (rest := [.int (iI (μ 0 2 0)), .ref q0, .ref q0, .ref (ad 0 0)]) F (kAs (x1 := -1) hi_x4 (by omega) (by omega)) wQN_F 1 tw2_164 tw1_5 tw2_162 tw2_163 tw2_161 hdX6_asNumbers ⟨Nat.le_of_ble_eq_true rfl, Nat.le_of_ble_eq_true rfl⟩ (hw1.recv (k := 1) (i := x4) hi_x4 rfl rfl) (fun q hq => ⟨hA q (Nat.le_trans hS.1 hq), by omega⟩) (fun q h => h.1) hK hw1 hS rfl hl.1 rfl (Nat.le_of_ble_eq_true rfl) dX10_barrel_49 ⟨Nat.le_of_ble_eq_true rfl, Nat.le_of_ble_eq_true rfl⟩ (fun v st t locs2 hst hq hS2 => ?_)
  obtain ⟨⟨q1, hv, hq1, hc1, hg, hne1⟩, hF⟩ := hq
  cases hv
  have hw2 := hw1.ofH hg
  have hc0 : va_at D vwCl (q0, .inr (0, [.int (iI 0), .int (iI 0), .int (iI 0), .null, .int (iI 0), .int (iI 0), .int (iI 0), .int (iI 0), .int (iI 0), .int (iI 0), .int (iI 0), .int (iI 0), .int (iI 0), .int (iI 0), .int (iI 0), .null, .int (iI 0)])) t.heap := (hP 0 _ rfl).kept (by rw [hF.2 q0 (by rw [hst]; omega) (fun z => z.2 rfl), hst])
  rw [hst] at hq1
  have hne : q1 ≠ q0 := by omega
  have hA1 : A q1 := hA q1 (Nat.le_trans hS.1 hq1)
  have hw2 : wdC G D cy ad (fun q => A q ∧ q ≠ q0 ∧ q ≠ q1) μ s t.heap := hw2.less (fun k i hd => ⟨(hw2.2.2.2 k i hd).1, (hw2.2.2.2 k i hd).2, hne1 k i hd⟩)
  have hl0 := hc0.lt
  have hl1 := hc1.lt
  refine lv_aload hx hb dX10_barrel_52 (lv_at hl 2 rfl) ?_
  refine q_sipush hx hb (by decide) dX10_barrel_54 ?_
  refine call_V3 (A := A) (A' := fun q => A q ∧ q ≠ q0 ∧ q ≠ q1) (rest := [.ref q1, .int (iI (μ 0 2 0)), .ref q0, .ref q0, .ref (ad 0 0)]) F (kAs (x1 := 255) hi_x5 (by omega) (by omega)) wQN_F 1 tw2_164 tw1_5 tw2_162 tw2_163 tw2_161 hdX6_asNumbers ⟨Nat.le_of_ble_eq_true rfl, Nat.le_of_ble_eq_true rfl⟩ (hw2.recv (k := 1) (i := x5) hi_x5 rfl rfl) (fun q hq => ⟨hA q (Nat.le_trans hS2.1 hq), by dsimp only at hl0; omega, by dsimp only at hl1; omega⟩) (fun q h => h.1) hK hw2 hS2 rfl hl.1 rfl (Nat.le_of_ble_eq_true rfl) dX10_barrel_57 ⟨Nat.le_of_ble_eq_true rfl, Nat.le_of_ble_eq_true rfl⟩ (fun v' st' t' locs4 hst' hq' hS4 => ?_)
  obtain ⟨⟨q2, hv, hq2, hc2, hg2, hne2⟩, hF2⟩ := hq'
  cases hv
  have hw4 := hw2.ofH hg2
  have hc0 := hc0.kept (by rw [hF2.2 q0 (by rw [hst']; exact hl0) (fun z => z.2.1 rfl), hst'])
  have hc1 := hc1.kept (by rw [hF2.2 q1 (by rw [hst']; exact hl1) (fun z => z.2.2 rfl), hst'])
  rw [hst'] at hq2
  dsimp only at hl0 hl1
  have hn2 : q0 ≠ q2 ∧ q1 ≠ q2 := ⟨by omega, by omega⟩
  have hA2 : A q2 := hA q2 (Nat.le_trans hS2.1 hq2)
  have hd3 : va_D A ([(q1, .inl (cy 0, (μ 1 1 x4).toNat, .inl (asF μ x4 (-1)))), (q2, .inl (cy 0, (μ 1 1 x5).toNat, .inl (asF μ x5 255)))] ++ [(q0, .inr (0, [.int (iI 0), .int (iI 0), .int (iI 0), .null, .int (iI 0), .int (iI 0), .int (iI 0), .int (iI 0), .int (iI 0), .int (iI 0), .int (iI 0), .int (iI 0), .int (iI 0), .int (iI 0), .int (iI 0), .null, .int (iI 0)]))]) := va_D.app (n_d2 hn2.2 hA1 hA2) (n_d1.weaken (fun k q hk _ => by match k, hk with | 0, hk => cases hk; exact hA0 | k + 1, hk => simp at hk)) (fun i j x y hx hy => by match i, j, hx, hy with | 0, 0, hx, hy => cases hx; cases hy; exact hne | 1, 0, hx, hy => cases hx; cases hy; exact fun z => hn2.1 z.symm | i + 2, _, hx, _ => simp at hx | _, j + 1, _, hy => simp at hy)
  refine n_call2 (ws := [(q1, .inl (cy 0, (μ 1 1 x4).toNat, .inl (asF μ x4 (-1)))), (q2, .inl (cy 0, (μ 1 1 x5).toNat, .inl (asF μ x5 255)))]) (rest := [.ref q0, .ref (ad 0 0)]) F (nX0_init_0 (cy := cy) (b := q0) (x1 := μ 0 2 0) (x2 := q1) (x3 := q2)) 3 tw2_225 tw1_15 tw2_224 tw2_223 rfl hdX0_init ⟨Nat.le_of_ble_eq_true rfl, Nat.le_of_ble_eq_true rfl⟩ hA hK ((n_p2 hc1 hc2).app (va_P1 hc0)) hd3 hS4 rfl hl.1 rfl (Nat.le_of_ble_eq_true rfl) dX10_barrel_60 ⟨Nat.le_of_ble_eq_true rfl, Nat.le_of_ble_eq_true rfl⟩ (fun α H3 locs3 hP3 hD3 hS3 hfr => ?_)
  have old : ∀ (k : Nat) (i : Int), dmC G k (μ k) i → ad k i ≠ q0 ∧ ad k i ≠ q1 ∧ ((3 : Int) = 3 → ad k i ≠ q2) := fun k i hd => ⟨(hw4.2.2.2 k i hd).2.1, (hw4.2.2.2 k i hd).2.2, fun _ => hne2 k i hd⟩
  have hw3 := hw4.same (H1 := H3) (fun k i hd => hfr _ (hw4.lt hd) (old k i hd).1)
  have ec : cfT (mkG G 3 (μ 1 1 x4) (μ 1 1 x5)) (mkA ad (G 0 0) q0 q1 q2) (mkM (G 0 0) (μ 1 1 x4) (μ 1 1 x5) (fun j => iand (μ 8 0 (48 * x4 + j)) (-1)) (fun j => iand (μ 8 0 (48 * x5 + j)) 255) μ 2) (G 0 0) = .inr (0, [.int (iI 0), .int (iI (G 0 0)), .int (iI 3), .ref q1, .int (iI 30), .int (iI 1000), .int (iI 1000), .int (iI 0), .int (iI 0), .int (iI 0), .int (iI (-9)), .int (iI 0), .int (iI 0), .int (iI 0), .int (iI 0), .ref q2, .int (iI 0)]) := by simp [cfT, mkG_1, mkA, mkM, mkT]
  have c0 : va_at D vwCl (q0, .inr (0, [.int (iI 0), .int (iI (G 0 0)), .int (iI 3), .ref q1, .int (iI 30), .int (iI 1000), .int (iI 1000), .int (iI 0), .int (iI 0), .int (iI 0), .int (iI (-9)), .int (iI 0), .int (iI 0), .int (iI 0), .int (iI 0), .ref q2, .int (iI 0)])) H3 := by rw [← ok.1.1]; exact hP3 2 _ rfl
  have hmk := make_w (sv := (fun j => iand (μ 8 0 (48 * x4 + j)) (-1))) (pv := (fun j => iand (μ 8 0 (48 * x5 + j)) 255)) (A := A) (q0 := q0) (q1 := q1) (q2 := q2) ok hw3 (fun q h => h.1) old ⟨fun h => hne h.symm, fun _ => hn2⟩ ⟨hA0, hA1, fun _ => hA2⟩ (by rw [ec]; exact c0) (hP3 0 _ rfl) (fun _ => hP3 1 _ rfl)
  exact mk_end F hr hk hA ⟨Nat.le_of_ble_eq_true rfl, Nat.le_of_ble_eq_true rfl, Nat.le_of_ble_eq_true rfl, Nat.le_of_ble_eq_true rfl⟩ h hmk hS3 hl.1 ⟨Nat.le_of_ble_eq_true rfl, Nat.le_of_ble_eq_true rfl⟩ dX10_barrel_63 dX10_barrel_66
end
set_option maxRecDepth 100000 in
set_option maxHeartbeats 4000000 in
theorem kX10_train {l : Launch} {D : va_G} {cy : Nat → ClassId} {ad : AD} {A : Nat → Prop} {G : GG} {μ : MM} {K : Int → MM → GG → Prop} (h : wpX10_train G (KMk G 0 0 0 (fun _ => 0) (fun _ => 0) K) μ (fun v u => K v u G)) : Met l yX10_train (Cond.code yX10_train cX10_train 1 (some .int) :: uw) ({ frames := 2, cells := 2, slots := 14, locals := 43 } : Room) (wPn [.ref (ad 0 0)] G D cy ad A μ) (wQG K D cy ad A) 2 14 A := by
  refine Met.ofW (cc := cX10_train) (maxL := 1) (ret := (some .int)) (by decide) rfl ?_
  intro p e s m args below meth c s₁ B hml hv
  obtain ⟨rfl, hA, hw, hK⟩ := hv
  have hts := atoms_spec (ws := Cond.code yX10_train cX10_train 1 (some .int) :: uw) B.pre
  have hown : s.vm.findClass RX10 = some m.cls := findClass_of_methodNamed B.named
  have hl := lv_entry ([.ref (ad 0 0)]) (n := 1) (Nat.le_of_ble_eq_true rfl)
  rw [lg_entry_eq]
  generalize (lg_sl ([.ref (ad 0 0)]) ++ List.replicate (1 - (lg_sl ([.ref (ad 0 0)])).length) Slot.unset).toArray = ls at hl ⊢
  have F : CallFix p m c cX10_train 1 s ([.ref (ad 0 0)] : List Value).toArray uw RX10 := ⟨B.exec, B.bytes, hml, hown, fun w h => hts w (List.mem_cons_of_mem _ h)⟩
  exact wX10_train F hA ⟨Nat.le_of_ble_eq_true rfl, Nat.le_of_ble_eq_true rfl⟩ (retG_of F B.returns B.notSynchronized) (fun μ H locs ls h hw hS hl => wtrain_mk F B.returns B.notSynchronized hA hK rfl h hw hS hl) h hw va_S.rf hl

set_option maxRecDepth 100000 in
set_option maxHeartbeats 4000000 in
theorem kX10_plate {l : Launch} {D : va_G} {cy : Nat → ClassId} {ad : AD} {A : Nat → Prop} {G : GG} {x1 : Int} {μ : MM} {K : Int → MM → GG → Prop} (h : wpX10_plate G (fun x3 μ => (0 ≤ μ 1 1 x3 ∧ μ 1 1 x3 ≤ 24) ∧ KMk G 1 (μ 1 1 x3) 0 (fun j => iand (μ 8 0 (48 * x3 + j)) (-1)) (fun _ => 0) K μ) x1 μ (fun v u => K v u G)) : Met l yX10_plate (Cond.code yX10_plate cX10_plate 4 (some .int) :: uw) ({ frames := 3, cells := 2, slots := 63, locals := 66 } : Room) (wPn [.ref (ad 0 0), .int (iI x1)] G D cy ad A μ) (wQG K D cy ad A) 2 63 A := by
  refine Met.ofW (cc := cX10_plate) (maxL := 4) (ret := (some .int)) (by decide) rfl ?_
  intro p e s m args below meth c s₁ B hml hv
  obtain ⟨rfl, hA, hw, hK⟩ := hv
  have hts := atoms_spec (ws := Cond.code yX10_plate cX10_plate 4 (some .int) :: uw) B.pre
  have hown : s.vm.findClass RX10 = some m.cls := findClass_of_methodNamed B.named
  have hl := lv_entry ([.ref (ad 0 0), .int (iI x1)]) (n := 4) (Nat.le_of_ble_eq_true rfl)
  rw [lg_entry_eq]
  generalize (lg_sl ([.ref (ad 0 0), .int (iI x1)]) ++ List.replicate (4 - (lg_sl ([.ref (ad 0 0), .int (iI x1)])).length) Slot.unset).toArray = ls at hl ⊢
  have F : CallFix p m c cX10_plate 4 s ([.ref (ad 0 0), .int (iI x1)] : List Value).toArray uw RX10 := ⟨B.exec, B.bytes, hml, hown, fun w h => hts w (List.mem_cons_of_mem _ h)⟩
  exact wX10_plate F hA ⟨Nat.le_of_ble_eq_true rfl, Nat.le_of_ble_eq_true rfl⟩ (retG_of F B.returns B.notSynchronized) (fun x3 μ H locs ls h hi hw hS hl => wplate_mk F B.returns B.notSynchronized hA hK rfl hi h hw hS hl) h hw va_S.rf hl

set_option maxRecDepth 100000 in
set_option maxHeartbeats 4000000 in
theorem kX10_snail {l : Launch} {D : va_G} {cy : Nat → ClassId} {ad : AD} {A : Nat → Prop} {G : GG} {x1 : Int} {μ : MM} {K : Int → MM → GG → Prop} (h : wpX10_snail G (fun x3 μ => (0 ≤ μ 1 1 x3 ∧ μ 1 1 x3 ≤ 24) ∧ KMk G 2 (μ 1 1 x3) 0 (fun j => iand (μ 8 0 (48 * x3 + j)) (-1)) (fun _ => 0) K μ) x1 μ (fun v u => K v u G)) : Met l yX10_snail (Cond.code yX10_snail cX10_snail 4 (some .int) :: uw) ({ frames := 3, cells := 2, slots := 62, locals := 66 } : Room) (wPn [.ref (ad 0 0), .int (iI x1)] G D cy ad A μ) (wQG K D cy ad A) 2 62 A := by
  refine Met.ofW (cc := cX10_snail) (maxL := 4) (ret := (some .int)) (by decide) rfl ?_
  intro p e s m args below meth c s₁ B hml hv
  obtain ⟨rfl, hA, hw, hK⟩ := hv
  have hts := atoms_spec (ws := Cond.code yX10_snail cX10_snail 4 (some .int) :: uw) B.pre
  have hown : s.vm.findClass RX10 = some m.cls := findClass_of_methodNamed B.named
  have hl := lv_entry ([.ref (ad 0 0), .int (iI x1)]) (n := 4) (Nat.le_of_ble_eq_true rfl)
  rw [lg_entry_eq]
  generalize (lg_sl ([.ref (ad 0 0), .int (iI x1)]) ++ List.replicate (4 - (lg_sl ([.ref (ad 0 0), .int (iI x1)])).length) Slot.unset).toArray = ls at hl ⊢
  have F : CallFix p m c cX10_snail 4 s ([.ref (ad 0 0), .int (iI x1)] : List Value).toArray uw RX10 := ⟨B.exec, B.bytes, hml, hown, fun w h => hts w (List.mem_cons_of_mem _ h)⟩
  exact wX10_snail F hA ⟨Nat.le_of_ble_eq_true rfl, Nat.le_of_ble_eq_true rfl⟩ (retG_of F B.returns B.notSynchronized) (fun x3 μ H locs ls h hi hw hS hl => wsnail_mk F B.returns B.notSynchronized hA hK rfl hi h hw hS hl) h hw va_S.rf hl

set_option maxRecDepth 100000 in
set_option maxHeartbeats 4000000 in
theorem kX10_barrel {l : Launch} {D : va_G} {cy : Nat → ClassId} {ad : AD} {A : Nat → Prop} {G : GG} {x1 : Int} {x2 : Int} {μ : MM} {K : Int → MM → GG → Prop} (h : wpX10_barrel G (fun x4 x5 μ => ((0 ≤ μ 1 1 x4 ∧ μ 1 1 x4 ≤ 24) ∧ 0 ≤ μ 1 1 x5 ∧ μ 1 1 x5 ≤ 48) ∧ KMk G 3 (μ 1 1 x4) (μ 1 1 x5) (fun j => iand (μ 8 0 (48 * x4 + j)) (-1)) (fun j => iand (μ 8 0 (48 * x5 + j)) 255) K μ) x1 x2 μ (fun v u => K v u G)) : Met l yX10_barrel (Cond.code yX10_barrel cX10_barrel 6 (some .int) :: uw) ({ frames := 4, cells := 3, slots := 113, locals := 89 } : Room) (wPn [.ref (ad 0 0), .int (iI x1), .int (iI x2)] G D cy ad A μ) (wQG K D cy ad A) 3 113 A := by
  refine Met.ofW (cc := cX10_barrel) (maxL := 6) (ret := (some .int)) (by decide) rfl ?_
  intro p e s m args below meth c s₁ B hml hv
  obtain ⟨rfl, hA, hw, hK⟩ := hv
  have hts := atoms_spec (ws := Cond.code yX10_barrel cX10_barrel 6 (some .int) :: uw) B.pre
  have hown : s.vm.findClass RX10 = some m.cls := findClass_of_methodNamed B.named
  have hl := lv_entry ([.ref (ad 0 0), .int (iI x1), .int (iI x2)]) (n := 6) (Nat.le_of_ble_eq_true rfl)
  rw [lg_entry_eq]
  generalize (lg_sl ([.ref (ad 0 0), .int (iI x1), .int (iI x2)]) ++ List.replicate (6 - (lg_sl ([.ref (ad 0 0), .int (iI x1), .int (iI x2)])).length) Slot.unset).toArray = ls at hl ⊢
  have F : CallFix p m c cX10_barrel 6 s ([.ref (ad 0 0), .int (iI x1), .int (iI x2)] : List Value).toArray uw RX10 := ⟨B.exec, B.bytes, hml, hown, fun w h => hts w (List.mem_cons_of_mem _ h)⟩
  exact wX10_barrel F hA ⟨Nat.le_of_ble_eq_true rfl, Nat.le_of_ble_eq_true rfl⟩ (retG_of F B.returns B.notSynchronized) (fun x4 x5 μ H locs ls h hi4 hi5 hw hS hl => wbarrel_mk F B.returns B.notSynchronized hA hK rfl hi4 hi5 h hw hS hl) h hw va_S.rf hl

