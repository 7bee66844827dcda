/-! the world: families of cells by number and id; what they hold is a memory of Ints -/
abbrev MM : Type := Nat → Nat → Int → Int
def ms (μ : MM) (k c : Nat) (j v : Int) : MM := fun k' c' j' => if k' = k ∧ c' = c ∧ j' = j then v else μ k' c' j'
def up2 (f : Nat → Int → Int) (c : Nat) (j v : Int) : Nat → Int → Int := fun c' j' => if c' = c ∧ j' = j then v else f c' j'
theorem ms_eq (μ : MM) (k c : Nat) (j v : Int) : ms μ k c j v = fun k' => if k' = k then up2 (μ k) c j v else μ k' := by
  funext k' c' j'
  by_cases h : k' = k
  · subst h
    simp [ms, up2]
  · simp [ms, h]
theorem ms_ne {μ : MM} {k c : Nat} {j v : Int} {k' : Nat} (h : k' ≠ k) : ms μ k c j v k' = μ k' := by
  funext c' j'
  simp [ms, h]
abbrev AD : Type := Nat → Int → Nat
def rf (ad : AD) (k : Nat) (x : Int) : Value := if x < 0 then .null else .ref (ad k x)
def ro (ad : AD) (k : Nat) (x : Int) : Option Nat := if x < 0 then none else some (ad k x)
theorem rf_pos {ad : AD} {k : Nat} {x : Int} (h : 0 ≤ x) : rf ad k x = .ref (ad k x) := if_neg (by omega)
theorem rf_neg {ad : AD} {k : Nat} {x : Int} (h : x < 0) : rf ad k x = .null := if_pos h
theorem rf_ro (ad : AD) (k : Nat) (x : Int) : va_rf (ro ad k x) = rf ad k x := by
  unfold ro rf
  split <;> rfl
theorem rf_cat (ad : AD) (k : Nat) (x : Int) : (rf ad k x).category = 1 := by
  unfold rf
  split <;> rfl
theorem rf_val (ad : AD) (k : Nat) (x : Int) : rf ad k x = .null ∨ ∃ a, rf ad k x = .ref a := by
  unfold rf
  split
  · exact Or.inl rfl
  · exact Or.inr ⟨_, rfl⟩
abbrev WDM : Type := Nat → (Nat → Int → Int) → Int → Prop
abbrev WCF : Type := (Nat → ClassId) → AD → Nat → (Nat → Int → Int) → Int → va_E
abbrev WTY : Type := (Nat → ClassId) → List (ClassId × FieldType)
def gwd (dm : WDM) (cf : WCF) (ty : WTY) (ex : State → Prop) (D : va_G) (cy : Nat → ClassId) (ad : AD) (A : Nat → Prop) (μ : MM) (s : State) (H : Heap) : Prop :=
  (∀ (k : Nat) (i : Int), dm k (μ k) i → va_at D vwCl (ad k i, cf cy ad k (μ k) i) H) ∧ (va_K D vwCl (ty cy) s ∧ ex s) ∧ (∀ (k : Nat) (i : Int) (k' : Nat) (i' : Int), dm k (μ k) i → dm k' (μ k') i' → ad k i = ad k' i' → k = k' ∧ i = i') ∧ ∀ (k : Nat) (i : Int), dm k (μ k) i → A (ad k i)
/-- one family's memory is exchanged, and one cell of it is written -/
theorem gwd.put {dm : WDM} {cf : WCF} {ty : WTY} {ex : State → Prop} {D : va_G} {cy : Nat → ClassId} {ad : AD} {A : Nat → Prop} {μ : MM} {s : State} {H H1 : Heap} {k0 : Nat} {i0 : Int} {g : Nat → Int → Int} (h : gwd dm cf ty ex D cy ad A μ s H) (hd : dm k0 (μ k0) i0) (oq : ∀ q : Nat, q ≠ ad k0 i0 → H1[q]? = H[q]?)
    (hn : va_at D vwCl (ad k0 i0, cf cy ad k0 g i0) H1) (hdm : ∀ i : Int, dm k0 g i ↔ dm k0 (μ k0) i) (ho : ∀ i : Int, i ≠ i0 → dm k0 (μ k0) i → ∀ (a : Nat) (H2 : Heap), va_at D vwCl (a, cf cy ad k0 (μ k0) i) H2 → va_at D vwCl (a, cf cy ad k0 g i) H2) :
    gwd dm cf ty ex D cy ad A (fun k => if k = k0 then g else μ k) s H1 := by
  obtain ⟨h1, h2, h3, h4⟩ := h
  have key : ∀ (k : Nat) (i : Int), dm k (if k = k0 then g else μ k) i → dm k (μ k) i := by
    intro k i q
    by_cases hk : k = k0
    · subst hk
      rw [if_pos rfl] at q
      exact (hdm i).mp q
    · rwa [if_neg hk] at q
  refine ⟨fun k i q => ?_, h2, fun k i k' i' q q' e => h3 k i k' i' (key k i q) (key k' i' q') e, fun k i q => h4 k i (key k i q)⟩
  have q0 := key k i q
  by_cases hk : k = k0
  · subst hk
    show va_at D vwCl (ad k i, cf cy ad k (if k = k then g else μ k) i) H1
    rw [if_pos rfl]
    by_cases hi : i = i0
    · subst hi
      exact hn
    · exact (ho i hi q0 _ _ (h1 k i q0)).kept (oq _ (fun e => hi (h3 k i k i0 q0 hd e).2))
  · show va_at D vwCl (ad k i, cf cy ad k (if k = k0 then g else μ k) i) H1
    rw [if_neg hk]
    exact (h1 k i q0).kept (oq _ (fun e => hk (h3 k i k0 i0 q0 hd e).1))
theorem gwd.moved {dm : WDM} {cf : WCF} {ty : WTY} {ex : State → Prop} {D : va_G} {cy : Nat → ClassId} {ad : AD} {A : Nat → Prop} {μ : MM} {s u : State} {H : Heap} (hex : ∀ {a b : State}, a.vm.Alike b.vm → ex a → ex b) (hvm : s.vm.Alike u.vm) (h : gwd dm cf ty ex D cy ad A μ s H) : gwd dm cf ty ex D cy ad A μ u H :=
  ⟨h.1, ⟨va_K.moved hvm h.2.1.1, hex hvm h.2.1.2⟩, h.2.2⟩
theorem va_P1 {D : va_G} {cl : List vw_C} {a : Nat} {e : va_E} {H : Heap} (h : va_at D cl (a, e) H) : va_P D cl [(a, e)] H := by
  intro k q hq
  have hz : k < 1 := (List.getElem?_eq_some_iff.mp hq).1
  rw [show k = 0 by omega] at hq
  cases hq
  exact h
section
variable {p : Program} {l : Launch} {e : Env} {R : Room} {s : State} {m : MethodId} {args : Array Value} {below : List Frame} {meth : Method} {c : Code} {H : Heap} {locs : List Loc} {cells slots : Nat} {Q : State → Prop} {cc : ByteArray} {pc nL : Nat} {ls : Array Slot} {rest : List Value} {own : String}
variable {dm : WDM} {cf : WCF} {ty : WTY} {ex : State → Prop} {D : va_G} {cy : Nat → ClassId} {ad : AD} {A : Nat → Prop} {μ : MM}
theorem g_get (F : CallFix p m c cc nL s args uw own) (hw : gwd dm cf ty ex D cy ad A μ s H) {k : Nat} {i : Int} (hd : dm k (μ k) i) {ci Nf idx : Nat} {C ref : String} {T : u_T} {fs : List Value} (hcf : cf cy ad k (μ k) i = .inr (ci, fs)) (hcl : vwCl[ci]? = some (C, T, Nf)) (hin : ∀ w ∈ u_ws C T Nf, w ∈ uw) (sl : Nat) (hsl : sl < Nf)
    (hl : Cond.fieldLink own idx ref (T sl).2.1 (T sl).2.2.1 ∈ uw) (hsame : ∀ x, s.fieldFound? (T sl).1 (T sl).2.1 (T sl).2.2.1 = some x → s.fieldFound? ref (T sl).2.1 (T sl).2.2.1 = some x) {v : Value} (hv : fs[sl]? = some v) (hdg : decode cc pc = .ok (.getfield idx, 3))
    (kk : W p l e R s m args below meth c H locs cells slots Q (F0 m (pc + 3) ls (v :: rest))) : W p l e R s m args below meth c H locs cells slots Q (F0 m pc ls (.ref (ad k i) :: rest)) := by
  have h := hw.1 k i hd
  rw [hcf] at h
  exact va_get (D := D) (cl := vwCl) F.1 F.2.1 F.2.2.2.2 hin F.2.2.2.1 hw.2.1.1 (va_P1 h) 0 rfl hcl sl hsl (F.2.2.2.2 _ hl) hsame hv hdg kk
theorem g_put (F : CallFix p m c cc nL s args uw own) (hw : gwd dm cf ty ex D cy ad A μ s H) (hS0 : va_S A s.heap H locs) {k : Nat} {i : Int} (hd : dm k (μ k) i) {ci Nf idx : Nat} {C ref : String} {T : u_T} {fs : List Value} (hcf : cf cy ad k (μ k) i = .inr (ci, fs)) (hcl : vwCl[ci]? = some (C, T, Nf)) (hin : ∀ w ∈ u_ws C T Nf, w ∈ uw) (ty0 : Nat → FieldType) (hty : ∀ k, k < Nf → parseFieldDescriptor (T k).2.2.1 = some (ty0 k)) (hnm : ∀ a, a < Nf → ∀ b, b < Nf → a ≠ b → (T a).2.1 ≠ (T b).2.1) (sl : Nat) (hsl : sl < Nf)
    (hl : Cond.fieldLink own idx ref (T sl).2.1 (T sl).2.2.1 ∈ uw) (hsame : ∀ x, s.fieldFound? (T sl).1 (T sl).2.1 (T sl).2.2.1 = some x → s.fieldFound? ref (T sl).2.1 (T sl).2.2.1 = some x) (hfin : (T sl).2.2.2 = false) {v : Value} (hn : narrow (ty0 sl) v = v) (hfit : fits (ty0 sl) v = true) (hlen : sl < fs.length) (hdg : decode cc pc = .ok (.putfield idx, 3))
    (kk : ∀ (H1 : Heap) (locs1 : List Loc), va_at D vwCl (ad k i, .inr (ci, fs.set sl v)) H1 → (∀ q : Nat, q ≠ ad k i → H1[q]? = H[q]?) → va_S A s.heap H1 locs1 → W p l e R s m args below meth c H1 locs1 cells slots Q (F0 m (pc + 3) ls rest)) : W p l e R s m args below meth c H locs cells slots Q (F0 m pc ls (v :: .ref (ad k i) :: rest)) := by
  obtain ⟨hexec, hb, -, hown, hts⟩ := F
  have hK := hw.2.1.1
  have hap := va_apart (own := own) (D := D) hts hin ty0 hty hnm hK hcl
  have h := hw.1 k i hd
  rw [hcf] at h
  obtain ⟨r, h1, cell, q1, q2, q3, q4⟩ := h
  have hr : r = (C, T, Nf) := Option.some.inj (h1.symm.trans hcl)
  subst hr
  obtain ⟨hS, hfc, kC, hkC, hkind⟩ := hK.1 ci _ hcl
  obtain ⟨cf', kf, fi, f, hi, hsl'⟩ := hS sl hsl
  have hlay := hts _ (hin _ (u_in_lay hsl))
  unfold u_lay at hlay
  rw [if_neg (by rw [hfin]; decide)] at hlay
  have hst := (u_facts hfc hkC (u_lays hts hin hsl) hi).1
  have h6 := u_store hfc hkC hkind hlay hi (hty sl hsl) hn hfit
  refine W.putK hexec hb (f := f) ⟨hown, hts _ hl, ⟨_, _, _, hsame _ hi⟩, hst⟩ (by rw [q2]; exact h6) q1 q3 (by rw [hsl']; exact k2_hasslot (q4 sl hsl)) rfl rfl hdg fun H' e1 e2 e3 => ?_
  rw [hsl'] at e1 ⊢
  exact kk H' _ ⟨_, hcl, t_OB.to (V := updV (vp_V fs) sl v) ⟨_, e1, q2, q3, t_set q4 hap hsl v⟩ (fun j _ => vp_updV_set hlen v j)⟩ e3 (hS0.put e2 e3 (hw.2.2.2 k i hd))
theorem g_iald (hx : p.tables.exec = Jvm.exec) (hb : c.code = cc) (hw : gwd dm cf ty ex D cy ad A μ s H) {k : Nat} {i : Int} (hd : dm k (μ k) i) {cA : ClassId} {n : Nat} {f : Nat → Int32} (hcf : cf cy ad k (μ k) i = .inl (cA, n, .inl f)) (t0 : Nat) (ht : (ty cy)[t0]? = some (cA, .int)) {a v : Int} (h0 : 0 ≤ a) (h1 : a < n) (hn : n ≤ 2147483647) (hv : f a.toNat = iI v) (hdg : decode cc pc = .ok (.iaload, 1))
    (kk : W p l e R s m args below meth c H locs cells slots Q (F0 m (pc + 1) ls (.int (iI v) :: rest))) : W p l e R s m args below meth c H locs cells slots Q (F0 m pc ls (.int (iI a) :: .ref (ad k i) :: rest)) := by
  have h := hw.1 k i hd
  rw [hcf] at h
  refine va_iald (D := D) (cl := vwCl) hx hb hw.2.1.1 (va_P1 h) 0 t0 rfl ht (iI_ix h0 h1 hn) hdg ?_
  rw [iI_cl ⟨by omega, by omega⟩, hv]
  exact kk
theorem g_bald (hx : p.tables.exec = Jvm.exec) (hb : c.code = cc) (hw : gwd dm cf ty ex D cy ad A μ s H) {k : Nat} {i : Int} (hd : dm k (μ k) i) {cA : ClassId} {n : Nat} {f : Nat → Int32} (hcf : cf cy ad k (μ k) i = .inl (cA, n, .inl f)) (t0 : Nat) (ht : (ty cy)[t0]? = some (cA, .byte)) {a v : Int} (h0 : 0 ≤ a) (h1 : a < n) (hn : n ≤ 2147483647) (hv : f a.toNat = iI v) (hdg : decode cc pc = .ok (.baload, 1))
    (kk : W p l e R s m args below meth c H locs cells slots Q (F0 m (pc + 1) ls (.int (iI v) :: rest))) : W p l e R s m args below meth c H locs cells slots Q (F0 m pc ls (.int (iI a) :: .ref (ad k i) :: rest)) := by
  have h := hw.1 k i hd
  rw [hcf] at h
  refine va_bald (D := D) (cl := vwCl) hx hb hw.2.1.1 (va_P1 h) 0 t0 rfl ht (iI_ix h0 h1 hn) hdg ?_
  rw [iI_cl ⟨by omega, by omega⟩, hv]
  exact kk
theorem g_zald (hx : p.tables.exec = Jvm.exec) (hb : c.code = cc) (hw : gwd dm cf ty ex D cy ad A μ s H) {k : Nat} {i : Int} (hd : dm k (μ k) i) {cA : ClassId} {n : Nat} {f : Nat → Int32} (hcf : cf cy ad k (μ k) i = .inl (cA, n, .inl f)) (t0 : Nat) (ht : (ty cy)[t0]? = some (cA, .boolean)) {a v : Int} (h0 : 0 ≤ a) (h1 : a < n) (hn : n ≤ 2147483647) (hv : f a.toNat = iI v) (hdg : decode cc pc = .ok (.baload, 1))
    (kk : W p l e R s m args below meth c H locs cells slots Q (F0 m (pc + 1) ls (.int (iI v) :: rest))) : W p l e R s m args below meth c H locs cells slots Q (F0 m pc ls (.int (iI a) :: .ref (ad k i) :: rest)) := by
  have h := hw.1 k i hd
  rw [hcf] at h
  refine va_zald (D := D) (cl := vwCl) hx hb hw.2.1.1 (va_P1 h) 0 t0 rfl ht (iI_ix h0 h1 hn) hdg ?_
  rw [iI_cl ⟨by omega, by omega⟩, hv]
  exact kk
theorem g_aald (hx : p.tables.exec = Jvm.exec) (hb : c.code = cc) (hw : gwd dm cf ty ex D cy ad A μ s H) {k : Nat} {i : Int} (hd : dm k (μ k) i) {cA : ClassId} {C : String} {n k2 : Nat} {f : Nat → Option Nat} (hcf : cf cy ad k (μ k) i = .inl (cA, n, .inr (.inr (.inr (.inr f))))) (t0 : Nat) (ht : (ty cy)[t0]? = some (cA, .object C)) {a v : Int} (h0 : 0 ≤ a) (h1 : a < n) (hn : n ≤ 2147483647) (hv : f a.toNat = ro ad k2 v) (hdg : decode cc pc = .ok (.aaload, 1))
    (kk : W p l e R s m args below meth c H locs cells slots Q (F0 m (pc + 1) ls (rf ad k2 v :: rest))) : W p l e R s m args below meth c H locs cells slots Q (F0 m pc ls (.int (iI a) :: .ref (ad k i) :: rest)) := by
  have h := hw.1 k i hd
  rw [hcf] at h
  refine va_aldq (D := D) (cl := vwCl) hx hb hw.2.1.1 (va_P1 h) 0 t0 rfl ht (iI_ix h0 h1 hn) hdg ?_
  rw [iI_cl ⟨by omega, by omega⟩, hv, rf_ro]
  exact kk
theorem g_alen (hx : p.tables.exec = Jvm.exec) (hb : c.code = cc) (hw : gwd dm cf ty ex D cy ad A μ s H) {k : Nat} {i : Int} (hd : dm k (μ k) i) {cA : ClassId} {x : vp_A} (hcf : cf cy ad k (μ k) i = .inl (cA, x)) (t0 : Nat) {fty : FieldType} (ht : (ty cy)[t0]? = some (cA, fty)) {v : Int} (hv : (x.1 : Int) = v) (hdg : decode cc pc = .ok (.arraylength, 1))
    (kk : W p l e R s m args below meth c H locs cells slots Q (F0 m (pc + 1) ls (.int (iI v) :: rest))) : W p l e R s m args below meth c H locs cells slots Q (F0 m pc ls (.ref (ad k i) :: rest)) := by
  have h := hw.1 k i hd
  rw [hcf] at h
  exact va_alen (D := D) (cl := vwCl) hx hb hw.2.1.1 (va_P1 h) 0 t0 rfl ht (by rw [← hv]; exact Int32.ofInt_eq_ofNat.symm) hdg kk
theorem cell_upd {cA : ClassId} {n : Nat} {f : Nat → Int32} {j : Nat} {x : Int32} : (vp_cell cA (n, .inl f)).setSlot j (.int x) = vp_cell cA (n, .inl (upd f j x)) := by
  rw [vp_cell_i, vp_cell_i, arrV_store]
  congr 1
  funext q
  by_cases hq : q = j
  · subst hq
    simp [updV, upd]
  · simp [updV, upd, hq]
theorem g_iast (hx : p.tables.exec = Jvm.exec) (hb : c.code = cc) (hw : gwd dm cf ty ex D cy ad A μ s H) (hS0 : va_S A s.heap H locs) {k : Nat} {i : Int} (hd : dm k (μ k) i) {cA : ClassId} {n : Nat} {f : Nat → Int32} (hcf : cf cy ad k (μ k) i = .inl (cA, n, .inl f)) (t0 : Nat) (ht : (ty cy)[t0]? = some (cA, .int)) {a v : Int} (h0 : 0 ≤ a) (h1 : a < n) (hn : n ≤ 2147483647) (hdg : decode cc pc = .ok (.iastore, 1))
    (kk : ∀ (H1 : Heap) (locs1 : List Loc), va_at D vwCl (ad k i, .inl (cA, n, .inl (upd f a.toNat (iI v)))) H1 → (∀ q : Nat, q ≠ ad k i → H1[q]? = H[q]?) → va_S A s.heap H1 locs1 → W p l e R s m args below meth c H1 locs1 cells slots Q (F0 m (pc + 1) ls rest)) : W p l e R s m args below meth c H locs cells slots Q (F0 m pc ls (.int (iI v) :: .int (iI a) :: .ref (ad k i) :: rest)) := by
  have h := hw.1 k i hd
  rw [hcf] at h
  refine W.iast hx hb (show H[ad k i]? = some (vp_cell cA (n, .inl f)) from h) ((hw.2.1.1.2 t0 _ ht).1 n (fun j => .int (f j))) (fun q => by cases q) (by show ¬ (iI a < 0 ∨ (arrV _ _ _).slots.size ≤ _); rw [arrV_size]; exact iI_ix h0 h1 hn) rfl rfl hdg fun H1 e1 z oq => ?_
  rw [iI_cl ⟨by omega, by omega⟩] at e1 ⊢
  exact kk H1 _ (by show H1[ad k i]? = some (vp_cell _ _); rw [e1]; exact congrArg some cell_upd) oq (hS0.put z oq (hw.2.2.2 k i hd))
theorem g_bast (hx : p.tables.exec = Jvm.exec) (hb : c.code = cc) (hw : gwd dm cf ty ex D cy ad A μ s H) (hS0 : va_S A s.heap H locs) {k : Nat} {i : Int} (hd : dm k (μ k) i) {cA : ClassId} {n : Nat} {f : Nat → Int32} (hcf : cf cy ad k (μ k) i = .inl (cA, n, .inl f)) (t0 : Nat) (ht : (ty cy)[t0]? = some (cA, .byte)) {a v : Int} (h0 : 0 ≤ a) (h1 : a < n) (hn : n ≤ 2147483647) (hdg : decode cc pc = .ok (.bastore, 1))
    (kk : ∀ (H1 : Heap) (locs1 : List Loc), va_at D vwCl (ad k i, .inl (cA, n, .inl (upd f a.toNat (iI (i2b v))))) H1 → (∀ q : Nat, q ≠ ad k i → H1[q]? = H[q]?) → va_S A s.heap H1 locs1 → W p l e R s m args below meth c H1 locs1 cells slots Q (F0 m (pc + 1) ls rest)) : W p l e R s m args below meth c H locs cells slots Q (F0 m pc ls (.int (iI v) :: .int (iI a) :: .ref (ad k i) :: rest)) := by
  have h := hw.1 k i hd
  rw [hcf] at h
  refine W.bast hx hb (show H[ad k i]? = some (vp_cell cA (n, .inl f)) from h) ((hw.2.1.1.2 t0 _ ht).1 n (fun j => .int (f j))) (fun q => by cases q) (by show ¬ (iI a < 0 ∨ (arrV _ _ _).slots.size ≤ _); rw [arrV_size]; exact iI_ix h0 h1 hn) rfl rfl hdg fun H1 e1 z oq => ?_
  rw [iI_cl ⟨by omega, by omega⟩] at e1 ⊢
  refine kk H1 _ (by show H1[ad k i]? = some (vp_cell _ _); rw [e1, ← i2b_iI]; exact congrArg some cell_upd) oq (hS0.put z oq (hw.2.2.2 k i hd))
theorem g_zast (hx : p.tables.exec = Jvm.exec) (hb : c.code = cc) (hw : gwd dm cf ty ex D cy ad A μ s H) (hS0 : va_S A s.heap H locs) {k : Nat} {i : Int} (hd : dm k (μ k) i) {cA : ClassId} {n : Nat} {f : Nat → Int32} (hcf : cf cy ad k (μ k) i = .inl (cA, n, .inl f)) (t0 : Nat) (ht : (ty cy)[t0]? = some (cA, .boolean)) {a v : Int} (h0 : 0 ≤ a) (h1 : a < n) (hn : n ≤ 2147483647) (hbv : v = 0 ∨ v = 1) (hdg : decode cc pc = .ok (.bastore, 1))
    (kk : ∀ (H1 : Heap) (locs1 : List Loc), va_at D vwCl (ad k i, .inl (cA, n, .inl (upd f a.toNat (iI v)))) H1 → (∀ q : Nat, q ≠ ad k i → H1[q]? = H[q]?) → va_S A s.heap H1 locs1 → W p l e R s m args below meth c H1 locs1 cells slots Q (F0 m (pc + 1) ls rest)) : W p l e R s m args below meth c H locs cells slots Q (F0 m pc ls (.int (iI v) :: .int (iI a) :: .ref (ad k i) :: rest)) := by
  have h := hw.1 k i hd
  rw [hcf] at h
  have hv1 : narrow .boolean (.int (iI v)) = .int (iI v) := by rcases hbv with rfl | rfl <;> rfl
  refine W.zast hx hb (show H[ad k i]? = some (vp_cell cA (n, .inl f)) from h) ((hw.2.1.1.2 t0 _ ht).1 n (fun j => .int (f j))) (fun q => by cases q) (by show ¬ (iI a < 0 ∨ (arrV _ _ _).slots.size ≤ _); rw [arrV_size]; exact iI_ix h0 h1 hn) rfl rfl hdg fun H1 e1 z oq => ?_
  rw [iI_cl ⟨by omega, by omega⟩] at e1 ⊢
  refine kk H1 _ (by show H1[ad k i]? = some (vp_cell _ _); rw [e1, hv1]; exact congrArg some cell_upd) oq (hS0.put z oq (hw.2.2.2 k i hd))
end
