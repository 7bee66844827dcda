/-! the law: the class's world and the reference's, side by side -/
def AC (s : State) (adR : AD) : Nat → Prop := fun q => s.heap.size ≤ q ∧ ∀ (k : Nat) (i : Int), dmR k (fun _ _ => 0) i → adR k i ≠ q
def AR (s : State) (G : GG) (ad : AD) : Nat → Prop := fun q => s.heap.size ≤ q ∧ ∀ (k : Nat) (i : Int), dmC G k (fun _ _ => 0) i → ad k i ≠ q
abbrev AL (s : State) : Nat → Prop := fun q => s.heap.size ≤ q
def LI (s : State) (D : va_G) (cy : Nat → ClassId) (G : GG) (ad adR : AD) (μ r : MM) (H : Heap) : Prop := wdC G D cy ad (AC s adR) μ s H ∧ wdR D cy adR (AR s G ad) r s H
theorem LI.afterC {s : State} {D : va_G} {cy : Nat → ClassId} {G G' : GG} {ad ad' adR : AD} {μ μ' r : MM} {H H' : Heap} (h : LI s D cy G ad adR μ r H) (hg : gWH (dmC G') (cfC G') D cy ad' (AC s adR) μ' H') (hok : okG G') (hF : ∀ q, q < H.size → ¬ AC s adR q → H'[q]? = H[q]?) : LI s D cy G' ad' adR μ' r H' :=
  ⟨⟨hg.1, ⟨h.1.2.1.1, hok, h.1.2.1.2.2⟩, hg.2⟩, (h.2.same (fun k i hd => hF _ (h.2.lt hd) (fun z => z.2 k i hd rfl))).less (fun k i hd => ⟨(h.2.2.2.2 k i hd).1, fun k' i' hd' e => (hg.2.2 k' i' hd').2 k i hd e.symm⟩)⟩
theorem LI.afterR {s : State} {D : va_G} {cy : Nat → ClassId} {G : GG} {ad adR : AD} {μ r r' : MM} {H H' : Heap} (h : LI s D cy G ad adR μ r H) (hg : gWH dmR cfR D cy adR (AR s G ad) r' H') (hF : ∀ q, q < H.size → ¬ AR s G ad q → H'[q]? = H[q]?) : LI s D cy G ad adR μ r' H' :=
  ⟨h.1.same (fun k i hd => hF _ (h.1.lt hd) (fun z => z.2 k i hd rfl)), h.2.ofH hg⟩
def XI (xs : Nat → Int32) (n : Nat) : Int := (xs n).toInt
theorem XI_rg (xs : Nat → Int32) (n : Nat) : rg (XI xs n) := rg_of _
def bz (x : Int) : Int := if x = 0 then 0 else 1
theorem bz01 (x : Int) : bz x = 0 ∨ bz x = 1 := by
  unfold bz
  split
  · exact Or.inl rfl
  · exact Or.inr rfl
def LC (p : Program) (s : State) (m : MethodId) (c : Code) (b L : Nat) (xs : Nat → Int32) (D : va_G) (cy : Nat → ClassId) : Prop := CallFix p m c cL_law 4 s #[Value.ref b] uw RL ∧ va_X b L xs s s.heap ∧ b < s.heap.size ∧ nK D cy s ∧ L ≤ 3072
section
variable {p : Program} {l : Launch} {e : Env} {s : State} {m : MethodId} {below : List Frame} {meth : Method} {c : Code} {H : Heap} {locs : List Loc} {Q : State → Prop} {pc : Nat} {ls : Array Slot} {rest : List Value} {cells slots b L : Nat} {xs : Nat → Int32}
variable {D : va_G} {cy : Nat → ClassId} {G : GG} {ad adR : AD} {μ r : MM}
variable {y : MethodName} {bytes : ByteArray} {maxL idx fr lo : Nat} {rt : Option FieldType} {rm : Room}
theorem l_ld (C : LC p s m c b L xs D cy) (hS : va_S (AL s) s.heap H locs) {i j : Nat} {jj : Int} (hjj : jj = (j : Int)) {v1 v2 : Value} (hl : lv_has ls 4 [(3, .int (iI (i : Int))), (2, v1), (1, v2), (0, .ref b)]) (hi : i + j < L) (d0 : decode cL_law pc = .ok (.aload_n 0, 1)) (d1 : decode cL_law (pc + 1) = .ok (.iload_n 3, 1)) (d2 : decode cL_law (pc + 2) = .ok (.iconst jj, 1)) (d3 : decode cL_law (pc + 3) = .ok (.iadd, 1)) (d4 : decode cL_law (pc + 4) = .ok (.iaload, 1))
    (kk : W p l e room_1 s m #[Value.ref b] below meth c H locs cells slots Q (F0 m (pc + 5) ls (.int (iI (XI xs (i + j))) :: rest))) : W p l e room_1 s m #[Value.ref b] below meth c H locs cells slots Q (F0 m pc ls rest) := by
  obtain ⟨F, hX, hbl, hK, hL⟩ := C
  subst hjj
  refine lv_aload_n F.1 F.2.1 d0 rfl (lv_at hl 3 rfl) ?_
  refine lv_iload_n F.1 F.2.1 d1 rfl (lv_at hl 0 rfl) ?_
  refine q_iconst F.1 F.2.1 d2 ?_
  refine q_iadd F.1 F.2.1 d3 ?_
  have hr : rg ((i : Int) + (j : Int)) := ⟨by omega, by omega⟩
  refine va_sld (A := AL s) F.1 F.2.1 hX hbl (Nat.not_le.mpr hbl) hS (i := iI ((i : Int) + (j : Int))) (iI_ix (by omega) (by omega) (by omega)) d4 ?_
  rw [iI_cl hr, show ((i : Int) + (j : Int)).toNat = i + j by omega, show xs (i + j) = iI (XI xs (i + j)) from (iI_of _).symm]
  exact kk
theorem l_ld0 (C : LC p s m c b L xs D cy) (hS : va_S (AL s) s.heap H locs) {i : Nat} {v1 v2 : Value} (hl : lv_has ls 4 [(3, .int (iI (i : Int))), (2, v1), (1, v2), (0, .ref b)]) (hi : i < L) (d0 : decode cL_law pc = .ok (.aload_n 0, 1)) (d1 : decode cL_law (pc + 1) = .ok (.iload_n 3, 1)) (d4 : decode cL_law (pc + 2) = .ok (.iaload, 1))
    (kk : W p l e room_1 s m #[Value.ref b] below meth c H locs cells slots Q (F0 m (pc + 3) ls (.int (iI (XI xs i)) :: rest))) : W p l e room_1 s m #[Value.ref b] below meth c H locs cells slots Q (F0 m pc ls rest) := by
  obtain ⟨F, hX, hbl, hK, hL⟩ := C
  refine lv_aload_n F.1 F.2.1 d0 rfl (lv_at hl 3 rfl) ?_
  refine lv_iload_n F.1 F.2.1 d1 rfl (lv_at hl 0 rfl) ?_
  have hr : rg (i : Int) := ⟨by omega, by omega⟩
  refine va_sld (A := AL s) F.1 F.2.1 hX hbl (Nat.not_le.mpr hbl) hS (i := iI (i : Int)) (iI_ix (by omega) (by omega) (by omega)) d4 ?_
  rw [iI_cl hr, show ((i : Int)).toNat = i by omega, show xs i = iI (XI xs i) from (iI_of _).symm]
  exact kk
/-- a number as a truth -/
theorem l_bz (C : LC p s m c b L xs D cy) {x : Int} (hx : rg x) {o1 o2 : Int} (d0 : decode cL_law pc = .ok (.ifCond .eq o1, 3)) (d1 : decode cL_law (pc + 3) = .ok (.iconst 1, 1)) (d2 : decode cL_law (pc + 4) = .ok (.goto o2, 3)) (d3 : decode cL_law (pc + 7) = .ok (.iconst 0, 1)) (h1 : (pc : Int) + o1 = ((pc + 7 : Nat) : Int)) (h2 : ((pc + 4 : Nat) : Int) + o2 = ((pc + 8 : Nat) : Int))
    (kk : W p l e room_1 s m #[Value.ref b] below meth c H locs cells slots Q (F0 m (pc + 8) ls (.int (iI (bz x)) :: rest))) : W p l e room_1 s m #[Value.ref b] below meth c H locs cells slots Q (F0 m pc ls (.int (iI x) :: rest)) := by
  obtain ⟨F, hX, hbl, hK, hL⟩ := C
  refine q_if_eq F.1 F.2.1 hx d0 h1 (fun q => ?_) (fun q => ?_)
  · refine q_iconst F.1 F.2.1 d3 ?_
    rw [show bz x = 0 from if_pos q] at kk
    exact kk
  · refine q_iconst F.1 F.2.1 d1 ?_
    refine lv_goto F.1 F.2.1 d2 h2 ?_
    rw [show bz x = 1 from if_neg q] at kk
    exact kk
theorem l_callC {K : Int → MM → Prop} {vf : Int → Option Value} {As : List Value} (C : LC p s m c b L xs D cy) (hLI : LI s D cy G ad adR μ r H) (hM : Met l y (Cond.code y bytes maxL rt :: uw) (rmm fr lo) (wPc (.ref (ad 0 0) :: As) (dmC G) (cfC G) tyC (exC G) D cy ad (AC s adR) μ) (wQ vf K (dmC G) (cfC G) D cy ad (AC s adR)) 0 0 (AC s adR)) (n : Nat) (hcode : Cond.code y bytes maxL rt ∈ uw) (hst : Cond.instanceMethod y ∈ uw) (hsel : Cond.selects y.cls y y ∈ uw) (hl : Cond.methodLink RL idx y ∈ uw) (hd : y.cls ≠ "java/lang/invoke/MethodHandle" ∧ y.cls ≠ "java/lang/invoke/VarHandle" ∧ (parseMethodDescriptor y.desc).map (fun d => d.parameters.length) = some n) (hy : y.cls = RX10) (hR : fr + 1 ≤ 9 ∧ 8 + (maxL + 11) + lo ≤ 320)
    (hS : va_S (AL s) s.heap H locs) {st0 : List Value} (hlen : As.length = n) (hsz : ls.size = 4) (hst0 : st0 = As.reverse ++ .ref (ad 0 0) :: rest) (hrm : (rest.map fun v => v.category).sum ≤ 8) (hdg : decode cL_law pc = .ok (.invokevirtual idx, 3)) (hf : cells ≤ 500000 ∧ slots ≤ 7000000)
    (kk : ∀ (v : Int) (μ' : MM) (H1 : Heap) (locs1 : List Loc), K v μ' → LI s D cy G ad adR μ' r H1 → va_S (AL s) s.heap H1 locs1 → W p l e room_1 s m #[Value.ref b] below meth c H1 locs1 cells slots Q (F0 m (pc + 3) ls ((vf v).toList ++ rest))) : W p l e room_1 s m #[Value.ref b] below meth c H locs cells slots Q (F0 m pc ls st0) := by
  obtain ⟨F, hX, hbl, hK, hL⟩ := C
  refine call_V2 (A := AL s) (rm := rmm fr lo) hexC F hM wQ_F n hcode (by rw [hy]; exact tw1_1) hst hsel hl hd hR (by rw [hy]; exact hLI.1.recv (k := 0) (i := 0) rfl rfl rfl) (fun q hq => ⟨Nat.le_trans hS.1 hq, fun k i hd e => by have := hLI.2.lt hd; omega⟩) (fun q h => h.1) hLI.1 hS hlen hsz hst0 hrm hdg ⟨Nat.le_trans hf.1 (by decide), Nat.le_trans hf.2 (by decide)⟩ (fun v st t locs1 hst hq hS1 => ?_)
  obtain ⟨⟨v0, u, hv, hKu, hg⟩, hF⟩ := hq
  cases hv
  exact kk v0 u t.heap locs1 hKu (hLI.afterC hg hLI.1.2.1.2.1 (fun q h1 h2 => by rw [hF.2 q (by rw [hst]; exact h1) h2, hst])) hS1
theorem l_callR {K : Int → MM → Prop} {vf : Int → Option Value} {As : List Value} (C : LC p s m c b L xs D cy) (hLI : LI s D cy G ad adR μ r H) (hM : Met l y (Cond.code y bytes maxL rt :: uw) (rmm fr lo) (wPc (.ref (adR 0 0) :: As) dmR cfR tyR exR D cy adR (AR s G ad) r) (wQ vf K dmR cfR D cy adR (AR s G ad)) 0 0 (AR s G ad)) (n : Nat) (hcode : Cond.code y bytes maxL rt ∈ uw) (hst : Cond.instanceMethod y ∈ uw) (hsel : Cond.selects y.cls y y ∈ uw) (hl : Cond.methodLink RL idx y ∈ uw) (hd : y.cls ≠ "java/lang/invoke/MethodHandle" ∧ y.cls ≠ "java/lang/invoke/VarHandle" ∧ (parseMethodDescriptor y.desc).map (fun d => d.parameters.length) = some n) (hy : y.cls = RX11) (hR : fr + 1 ≤ 9 ∧ 8 + (maxL + 11) + lo ≤ 320)
    (hS : va_S (AL s) s.heap H locs) {st0 : List Value} (hlen : As.length = n) (hsz : ls.size = 4) (hst0 : st0 = As.reverse ++ .ref (adR 0 0) :: rest) (hrm : (rest.map fun v => v.category).sum ≤ 8) (hdg : decode cL_law pc = .ok (.invokevirtual idx, 3)) (hf : cells ≤ 500000 ∧ slots ≤ 7000000)
    (kk : ∀ (v : Int) (r' : MM) (H1 : Heap) (locs1 : List Loc), K v r' → LI s D cy G ad adR μ r' H1 → va_S (AL s) s.heap H1 locs1 → W p l e room_1 s m #[Value.ref b] below meth c H1 locs1 cells slots Q (F0 m (pc + 3) ls ((vf v).toList ++ rest))) : W p l e room_1 s m #[Value.ref b] below meth c H locs cells slots Q (F0 m pc ls st0) := by
  obtain ⟨F, hX, hbl, hK, hL⟩ := C
  refine call_V2 (A := AL s) (rm := rmm fr lo) hexR F hM wQ_F n hcode (by rw [hy]; exact tw1_8) hst hsel hl hd hR (by rw [hy]; exact hLI.2.recv (k := 0) (i := 0) ⟨rfl, Or.inl rfl⟩ rfl rfl) (fun q hq => ⟨Nat.le_trans hS.1 hq, fun k i hd e => by have := hLI.1.lt hd; omega⟩) (fun q h => h.1) hLI.2 hS hlen hsz hst0 hrm hdg ⟨Nat.le_trans hf.1 (by decide), Nat.le_trans hf.2 (by decide)⟩ (fun v st t locs1 hst hq hS1 => ?_)
  obtain ⟨⟨v0, u, hv, hKu, hg⟩, hF⟩ := hq
  cases hv
  exact kk v0 u t.heap locs1 hKu (hLI.afterR hg (fun q h1 h2 => by rw [hF.2 q (by rw [hst]; exact h1) h2, hst])) hS1
theorem l_callG {K : Int → MM → GG → Prop} {As : List Value} (C : LC p s m c b L xs D cy) (hLI : LI s D cy G ad adR μ r H) (hM : Met l y (Cond.code y bytes maxL rt :: uw) rm (wPn (.ref (ad 0 0) :: As) G D cy ad (AC s adR) μ) (wQG K D cy ad (AC s adR)) rm.cells rm.slots (AC s adR)) (hm : rm.cells ≤ 3 ∧ rm.slots ≤ 113) (n : Nat) (hcode : Cond.code y bytes maxL rt ∈ uw) (hst : Cond.instanceMethod y ∈ uw) (hsel : Cond.selects y.cls y y ∈ uw) (hl : Cond.methodLink RL idx y ∈ uw) (hd : y.cls ≠ "java/lang/invoke/MethodHandle" ∧ y.cls ≠ "java/lang/invoke/VarHandle" ∧ (parseMethodDescriptor y.desc).map (fun d => d.parameters.length) = some n) (hy : y.cls = RX10) (hR : rm.frames + 1 ≤ 9 ∧ 8 + (maxL + 11) + rm.locals ≤ 320)
    (hS : va_S (AL s) s.heap H locs) {st0 : List Value} (hlen : As.length = n) (hsz : ls.size = 4) (hst0 : st0 = As.reverse ++ .ref (ad 0 0) :: rest) (hrm : (rest.map fun v => v.category).sum ≤ 8) (hdg : decode cL_law pc = .ok (.invokevirtual idx, 3)) (hf : cells ≤ 500000 ∧ slots ≤ 7000000)
    (kk : ∀ (v : Int) (μ' : MM) (G' : GG) (ad' : AD) (H1 : Heap) (locs1 : List Loc), K v μ' G' → ad' 0 0 = ad 0 0 → LI s D cy G' ad' adR μ' r H1 → va_S (AL s) s.heap H1 locs1 → W p l e room_1 s m #[Value.ref b] below meth c H1 locs1 (cells + 3) (slots + 113) Q (F0 m (pc + 3) ls (.int (iI v) :: rest))) : W p l e room_1 s m #[Value.ref b] below meth c H locs cells slots Q (F0 m pc ls st0) := by
  obtain ⟨F, hX, hbl, hK, hL⟩ := C
  refine call_V3 (A := AL s) F hM wQG_F n hcode (by rw [hy]; exact tw1_1) hst hsel hl hd hR (by rw [hy]; exact hLI.1.recv (k := 0) (i := 0) rfl rfl rfl) (fun q hq => ⟨Nat.le_trans hS.1 hq, fun k i hd e => by have := hLI.2.lt hd; omega⟩) (fun q h => h.1) hK hLI.1 hS hlen hsz hst0 hrm hdg ⟨Nat.le_trans (Nat.add_le_add hf.1 hm.1) (by decide), Nat.le_trans (Nat.add_le_add hf.2 hm.2) (by decide)⟩ (fun v st t locs1 hst hq hS1 => ?_)
  obtain ⟨⟨v0, u, G', ad', hv, hKu, he, hok, hg⟩, hF⟩ := hq
  cases hv
  exact W.widen (Nat.add_le_add_left hm.1 _) (Nat.add_le_add_left hm.2 _) (kk v0 u G' ad' t.heap locs1 hKu he (hLI.afterC hg hok (fun q h1 h2 => by rw [hF.2 q (by rw [hst]; exact h1) h2, hst])) hS1)
end
