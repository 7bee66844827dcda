/-! a row as an array of numbers that is new -/
def wPn (av : List Value) (G : GG) (D : va_G) (cy : Nat → ClassId) (ad : AD) (A : Nat → Prop) (μ : MM) : Array Value → State → Prop := va_Pc av (fun U => (∀ q : Nat, U.heap.size ≤ q → A q) ∧ wdC G D cy ad A μ U U.heap ∧ nK D cy U)
theorem wPn_blind {av : List Value} {G : GG} {D : va_G} {cy : Nat → ClassId} {ad : AD} {A : Nat → Prop} {μ : MM} : FrameBlind (wPn av G D cy ad A μ) := by
  intro a U g mk h
  obtain ⟨h0, h1, h2, h3⟩ := h
  exact ⟨h0, h1, h2.enter (U := U.calling g mk a) hexC (State.WarmedH.refl U), h3.warm (U := U.calling g mk a) (State.WarmedH.refl U)⟩
def wQN (G : GG) (D : va_G) (cy : Nat → ClassId) (ad : AD) (A : Nat → Prop) (μ : MM) (N : Nat) (f : Nat → Int32) : Array Value → State → Outcome → State → Prop := fun _ st oc t => (∃ q : Nat, oc = .returned (some (.ref q)) ∧ st.heap.size ≤ q ∧ va_at D vwCl (q, .inl (cy 0, N, .inl f)) t.heap ∧ gWH (dmC G) (cfC G) D cy ad A μ t.heap ∧ ∀ (k : Nat) (i : Int), dmC G k (μ k) i → ad k i ≠ q) ∧ va_F A st t
section
variable {p : Program} {l : Launch} {e : Env} {R : Room} {s : State} {m : MethodId} {args : Array Value} {below : List Frame} {meth : Method} {c : Code} {H H1 : Heap} {locs : List Loc} {Q : State → Prop} {cc : ByteArray} {pc nL : Nat} {ls : Array Slot} {rest : List Value} {own : String} {cells slots : Nat}
variable {dm : WDM} {cf : WCF} {ty : WTY} {ex : State → Prop} {D : va_G} {cy : Nat → ClassId} {ad : AD} {A A' : Nat → Prop} {μ : MM} {G : GG}
variable {y : MethodName} {bytes : ByteArray} {maxL idx n : Nat} {rt : Option FieldType} {rm : Room}
theorem gwd.lt (hw : gwd dm cf ty ex D cy ad A μ s H) {k : Nat} {i : Int} (hd : dm k (μ k) i) : ad k i < H.size := (hw.1 k i hd).lt
/-- cells of the world stay: so does the world -/
theorem gwd.same (hw : gwd dm cf ty ex D cy ad A μ s H) (h : ∀ (k : Nat) (i : Int), dm k (μ k) i → H1[ad k i]? = H[ad k i]?) : gwd dm cf ty ex D cy ad A μ s H1 := ⟨fun k i hd => (hw.1 k i hd).kept (h k i hd), hw.2⟩
theorem x_iast (F : CallFix p m c cc nL s args uw own) (hK : nK D cy s) (hS : va_S A s.heap H locs) {a0 N : Nat} {f : Nat → Int32} (hc : va_at D vwCl (a0, .inl (cy 0, N, .inl f)) H) (hA0 : A a0) {a v : Int} (h0 : 0 ≤ a) (h1 : a < N) (hN : N ≤ 100000) (hdg : decode cc pc = .ok (.iastore, 1))
    (kk : ∀ (H1 : Heap) (locs1 : List Loc), va_at D vwCl (a0, .inl (cy 0, N, .inl (upd f a.toNat (iI v)))) H1 → (∀ q : Nat, q ≠ a0 → H1[q]? = H[q]?) → H1.size = H.size → va_S A s.heap H1 locs1 → W p l e R s m args below meth c H1 locs1 cells slots Q (F0 m (pc + 1) ls rest)) : W p l e R s m args below meth c H locs cells slots Q (F0 m pc ls (.int (iI v) :: .int (iI a) :: .ref a0 :: rest)) := by
  refine W.iast F.1 F.2.1 (show H[a0]? = some (vp_cell (cy 0) (N, .inl f)) from hc) ((hK.1.2 0 (cy 0, .int) rfl).1 N (fun j => .int (f j))) (fun q => by cases q) (by show ¬ (iI a < 0 ∨ (arrV _ _ _).slots.size ≤ _); rw [arrV_size]; exact iI_ix h0 h1 (by omega)) rfl rfl hdg fun H1 e1 z oq => ?_
  rw [iI_cl ⟨by omega, by omega⟩] at e1 ⊢
  exact kk H1 _ (by show H1[a0]? = some (vp_cell _ _); rw [e1]; exact congrArg some cell_upd) oq z (hS.put z oq hA0)
theorem x_alen (F : CallFix p m c cc nL s args uw own) (hK : nK D cy s) {a0 N : Nat} {f : Nat → Int32} (hc : va_at D vwCl (a0, .inl (cy 0, N, .inl f)) H) (hdg : decode cc pc = .ok (.arraylength, 1)) (kk : W p l e R s m args below meth c H locs cells slots Q (F0 m (pc + 1) ls (.int (iI (N : Int)) :: rest))) : W p l e R s m args below meth c H locs cells slots Q (F0 m pc ls (.ref a0 :: rest)) :=
  va_alen (D := D) (cl := vwCl) F.1 F.2.1 hK.1 (va_P1 hc) 0 0 rfl rfl (Int32.ofInt_eq_ofNat.symm) hdg kk
end
def asF (μ : MM) (i x : Int) (j : Nat) : Int32 := iI (iand (μ 8 0 (48 * i + (j : Int))) x)
section
variable {p : Program} {l : Launch} {e : Env} {R : Room} {s : State} {m : MethodId} {args : Array Value} {below : List Frame} {meth : Method} {c : Code} {D : va_G} {cy : Nat → ClassId} {ad : AD} {A : Nat → Prop} {μ : MM} {G : GG} {i x1 : Int}
set_option maxRecDepth 100000 in
set_option maxHeartbeats 4000000 in
theorem wAs_loop {Qf : State → Prop} (F : CallFix p m c cX6_asNumbers 4 s args uw RX6) (hR : 1 ≤ R.frames ∧ 21 ≤ R.locals ∧ 1 ≤ R.cells ∧ 48 ≤ R.slots) (hA : ∀ q : Nat, s.heap.size ≤ q → A q) (hK : nK D cy s) (hi : 0 ≤ i ∧ i < 8) {N q0 : Nat} (hq0 : s.heap.size ≤ q0) (hN : (N : Int) = μ 1 1 i) (h48 : N ≤ 48)
    (ret : ∀ (H : Heap) (locs : List Loc) (f : Nat → Int32) (ls : Array Slot), wdC G D cy ad (fun q => A q ∧ q ≠ q0) μ s H → va_at D vwCl (q0, .inl (cy 0, N, .inl f)) H → (∀ j : Nat, j < N → f j = asF μ i x1 j) → va_S A s.heap H locs → W p l e R s m args below meth c H locs 1 48 Qf (F0 m 36 ls [.ref q0])) :
    ∀ (d : Nat) (x : Nat) (H : Heap) (locs : List Loc) (f : Nat → Int32) (ls : Array Slot), x + d = N → wdC G D cy ad (fun q => A q ∧ q ≠ q0) μ s H → va_at D vwCl (q0, .inl (cy 0, N, .inl f)) H → (∀ j : Nat, j < x → f j = asF μ i x1 j) → va_S A s.heap H locs → lv_has ls 4 [(3, .int (iI (x : Int))), (2, .ref q0), (0, .ref (ad 1 i)), (1, .int (iI x1))] → W p l e R s m args below meth c H locs 1 48 Qf (F0 m 13 ls []) := by
  have hx := F.1
  have hb := F.2.1
  intro d
  induction d with
  | zero =>
    intro x H locs f ls he hw hc hf hS hl
    have hxN : x = N := by omega
    subst hxN
    refine lv_iload_n hx hb dX6_asNumbers_13 rfl (lv_at hl 0 rfl) ?_
    refine lv_aload_n hx hb dX6_asNumbers_14 rfl (lv_at hl 1 rfl) ?_
    refine x_alen F hK hc dX6_asNumbers_15 ?_
    refine q_icmp_ge (tgt := 35) hx hb ⟨by omega, by omega⟩ ⟨by omega, by omega⟩ dX6_asNumbers_16 (by decide) (fun _ => ?_) (fun q => absurd (Int.le_refl _) q)
    refine lv_aload_n hx hb dX6_asNumbers_35 rfl (lv_at hl 1 rfl) ?_
    exact ret H locs f ls hw hc hf hS
  | succ d ih =>
    intro x H locs f ls he hw hc hf hS hl
    have hlt : q0 < H.size := hc.lt
    refine lv_iload_n hx hb dX6_asNumbers_13 rfl (lv_at hl 0 rfl) ?_
    refine lv_aload_n hx hb dX6_asNumbers_14 rfl (lv_at hl 1 rfl) ?_
    refine x_alen F hK hc dX6_asNumbers_15 ?_
    refine q_icmp_ge (tgt := 35) hx hb ⟨by omega, by omega⟩ ⟨by omega, by omega⟩ dX6_asNumbers_16 (by decide) (fun q => absurd q (by omega)) (fun _ => ?_)
    refine lv_aload_n hx hb dX6_asNumbers_19 rfl (lv_at hl 1 rfl) ?_
    refine lv_iload_n hx hb dX6_asNumbers_20 rfl (lv_at hl 0 rfl) ?_
    refine lv_aload_n hx hb dX6_asNumbers_21 rfl (lv_at hl 2 rfl) ?_
    refine lv_iload_n hx hb dX6_asNumbers_22 rfl (lv_at hl 0 rfl) ?_
    have hat : wpX6_at G i (x : Int) μ (fun v u => v = μ 8 0 (48 * i + (x : Int)) ∧ u = μ) := by
      unfold wpX6_at
      exact ⟨⟨by omega, by omega⟩, ite_n (by omega) ⟨⟨by omega, by omega⟩, ite_n (by omega) (ite_n (by omega) ⟨by omega, by omega, rfl, rfl⟩)⟩⟩
    refine call_V2 (A := A) (rest := [.int (iI (x : Int)), .ref q0]) hexC F (kX6_at hat hi) wQ_F 1 tw2_43 tw1_5 tw2_41 tw2_42 tw2_158 hdX6_at ⟨hR.1, hR.2.1⟩ (hw.recv (k := 1) (i := i) hi rfl rfl) (fun q hq => ⟨hA q (Nat.le_trans hS.1 hq), by omega⟩) (fun q hq => hq.1) hw hS rfl hl.1 rfl (Nat.le_of_ble_eq_true rfl) dX6_asNumbers_23 ⟨hR.2.2.1, hR.2.2.2⟩ (fun v st t locs hst hq hS => ?_)
    obtain ⟨⟨v0, u, hv, ⟨e1, e2⟩, hg⟩, hF⟩ := hq
    cases hv
    subst e1
    subst e2
    have hw := hw.ofH hg
    have hc : va_at D vwCl (q0, .inl (cy 0, N, .inl f)) t.heap := hc.kept (by rw [hF.2 q0 (by rw [hst]; exact hlt) (fun z => z.2 rfl), hst])
    generalize t.heap = H at hw hc hS ⊢
    refine lv_iload_n hx hb dX6_asNumbers_26 rfl (lv_at hl 3 rfl) ?_
    refine q_iand hx hb dX6_asNumbers_27 ?_
    refine x_iast F hK hS hc (hA q0 hq0) (by omega) (by omega) (by omega) dX6_asNumbers_28 (fun H1 locs1 hc1 oq hz hS1 => ?_)
    have hw1 := hw.same (H1 := H1) (fun k j hd => oq _ (hw.2.2.2 k j hd).2)
    refine q_iinc (k := 0) (lv' := [(3, .int (iI ((x : Int) + 1))), (2, .ref q0), (0, .ref (ad 1 i)), (1, .int (iI x1))]) hx hb dX6_asNumbers_29 hl rfl (by decide) rfl (fun ls hl => ?_)
    refine lv_goto (tgt := 13) hx hb dX6_asNumbers_32 (by decide) ?_
    refine ih (x + 1) H1 locs1 _ ls (by omega) hw1 hc1 (fun j hj => ?_) hS1 hl
    by_cases e : j = x
    · subst e
      simp [upd, asF]
    · simp only [upd, Int.toNat_natCast, e, if_false]
      exact hf j (by omega)
set_option maxRecDepth 100000 in
set_option maxHeartbeats 4000000 in
theorem kAs (hi : 0 ≤ i ∧ i < 8) (h0 : 0 ≤ μ 1 1 i) (h48 : μ 1 1 i ≤ 48) : Met l yX6_asNumbers (Cond.code yX6_asNumbers cX6_asNumbers 4 (some (.array .int)) :: uw) ({ frames := 1, cells := 1, slots := 48, locals := 21 } : Room) (wPn [.ref (ad 1 i), .int (iI x1)] G D cy ad A μ) (wQN G D cy ad A μ (μ 1 1 i).toNat (asF μ i x1)) 1 48 A := by
  refine Met.ofW (cc := cX6_asNumbers) (maxL := 4) (ret := some (.array .int)) (by decide) rfl ?_
  intro p e s m args below meth c s₁ B hml hv
  obtain ⟨rfl, hA, hw, hK⟩ := hv
  have hts := atoms_spec (ws := Cond.code yX6_asNumbers cX6_asNumbers 4 (some (.array .int)) :: uw) B.pre
  have hown : s.vm.findClass RX6 = some m.cls := findClass_of_methodNamed B.named
  have hl := lv_entry ([.ref (ad 1 i), .int (iI x1)]) (n := 4) (Nat.le_of_ble_eq_true rfl)
  rw [lg_entry_eq]
  generalize (lg_sl ([.ref (ad 1 i), .int (iI x1)]) ++ List.replicate (4 - (lg_sl ([.ref (ad 1 i), .int (iI x1)])).length) Slot.unset).toArray = ls at hl ⊢
  have hl : lv_has ls 4 [(0, .ref (ad 1 i)), (1, .int (iI x1))] := hl
  have F : CallFix p m c cX6_asNumbers 4 s ([.ref (ad 1 i), .int (iI x1)] : List Value).toArray uw RX6 := ⟨B.exec, B.bytes, hml, hown, fun w h => hts w (List.mem_cons_of_mem _ h)⟩
  have hx := F.1
  have hb := F.2.1
  have hS : va_S A s.heap s.heap [] := va_S.rf
  refine lv_aload_n hx hb dX6_asNumbers_0 rfl (lv_at hl 0 rfl) ?_
  refine gC_R_size F hw hi tw1_122 dX6_asNumbers_1 ?_
  refine q_iconst hx hb dX6_asNumbers_4 ?_
  have hmx : wpJ9_max_7cf53 G (μ 1 1 i) 0 μ (fun v u => v = μ 1 1 i ∧ u = μ) := by
    unfold wpJ9_max_7cf53
    exact ⟨⟨by omega, by omega⟩, by decide, ite_n (by omega) ⟨rfl, rfl⟩⟩
  refine call_S hexC F (kJ9_max_7cf53 hmx) 2 tw2_167 tw1_13 tw2_166 tw2_165 hdJ9_max_7cf53 ⟨Nat.le_of_ble_eq_true rfl, Nat.le_of_ble_eq_true rfl⟩ hA hw hS rfl hl.1 rfl (Nat.le_of_ble_eq_true rfl) dX6_asNumbers_5 (fun v u H locs hv hw' hS => ?_)
  obtain ⟨e1, e2⟩ := hv
  subst e1
  subst e2
  clear hw
  have hw := hw'
  refine n_newa (ws := []) (atype := .int) (cA := cy 0) F hK (fun k q h => by simp at h) ⟨fun i j p q h => by simp at h, fun k q h => by simp at h⟩ hS hA 0 rfl tw1_44 rfl rfl (u 1 1 i).toNat (by omega) rfl ⟨by omega, by decide⟩ ⟨Nat.le_of_ble_eq_true rfl, by show 0 + (u 1 1 i).toNat ≤ 48; omega⟩ dX6_asNumbers_8 (fun q0 H2 hq0 hP hD hS2 hsame hsz => ?_)
  refine W.widen (k := 1) (n := 48) (Nat.le_refl _) (by omega) ?_
  have hc : va_at D vwCl (q0, .inl (cy 0, (u 1 1 i).toNat, .inl (fun _ => iI 0))) H2 := hP 0 _ rfl
  have hw2 : wdC G D cy ad (fun q => A q ∧ q ≠ q0) u s H2 := (hw.same (fun k j hd => hsame _ (hw.lt hd))).less (fun k j hd => ⟨hw.2.2.2 k j hd, by have := hw.lt hd; omega⟩)
  refine lv_astore_n (lv' := [(2, .ref q0), (0, .ref (ad 1 i)), (1, .int (iI x1))]) hx hb dX6_asNumbers_10 rfl hl (by decide) rfl (fun ls hl => ?_)
  refine q_iconst hx hb dX6_asNumbers_11 ?_
  refine lv_istore_n (lv' := [(3, .int (iI 0)), (2, .ref q0), (0, .ref (ad 1 i)), (1, .int (iI x1))]) hx hb dX6_asNumbers_12 rfl hl (by decide) rfl (fun ls hl => ?_)
  refine wAs_loop F ⟨Nat.le_of_ble_eq_true rfl, Nat.le_of_ble_eq_true rfl, Nat.le_of_ble_eq_true rfl, Nat.le_of_ble_eq_true rfl⟩ hA hK hi (q0 := q0) (by rw [hq0]; exact hS.1) (by omega) (by omega) (fun H3 locs3 f ls3 hw3 hc3 hf3 hS3 => ?_) (u 1 1 i).toNat 0 H2 _ _ ls (by omega) hw2 hc (fun j hj => by omega) hS2 hl
  refine W.aret F.1 F.2.1 B.returns (Or.inr ⟨_, rfl⟩) (Or.inr ⟨_, rfl⟩) (fun t ht hW => ⟨⟨q0, rfl, by rw [hq0]; exact hS.1, ?_, ?_, fun k j hd => (hw3.2.2.2 k j hd).2⟩, hS3.F ht⟩) hS3.2.2 dX6_asNumbers_36 B.notSynchronized
  · rw [ht]
    exact cell_congr hf3 hc3
  · rw [ht]
    exact (hw3.less (fun k j hd => (hw3.2.2.2 k j hd).1)).toH
end
