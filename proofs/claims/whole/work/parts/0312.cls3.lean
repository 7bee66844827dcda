section
variable {p : Program} {l : Launch} {e : Env} {R : Room} {s : State} {m : MethodId} {args : Array Value} {below : List Frame} {meth : Method} {c : Code} {Qf : State → Prop} {D : va_G} {cy : Nat → ClassId} {ad : AD} {A : Nat → Prop}
set_option maxRecDepth 100000 in
set_option maxHeartbeats 4000000 in
theorem dc_Plate_strokesRound {G : GG} {i x1 : Int} {μ : MM} {Q : Int → MM → Prop} {H : Heap} {locs : List Loc} {cc : ByteArray} {pc nL idx : Nat} {ls : Array Slot} {rest st0 : List Value} {own : String} (F : CallFix p m c cc nL s args uw own) (hl : Cond.methodLink own idx ⟨"HammerTowers$Plate", "strokesRound", "(I)I"⟩ ∈ uw) (h : wpX9_strokesRound G i x1 μ Q) (hi : 0 ≤ i ∧ i < G 0 0) (hk : G 1 i = 1 ∨ G 1 i = 3) (hR : 1 ≤ R.frames ∧ 22 ≤ R.locals) (hA : ∀ q : Nat, s.heap.size ≤ q → A q) (hw : wdC G D cy ad A μ s H) (hS : va_S A s.heap H locs) (hsz : ls.size = nL) (hst0 : st0 = ([.int (iI x1)] : List Value).reverse ++ .ref (ad 2 i) :: rest) (hrm : (rest.map fun v => v.category).sum ≤ 8) (hdg : decode cc pc = .ok (.invokevirtual idx, 3)) (kk : ∀ (v : Int) (u : MM) (H1 : Heap) (locs1 : List Loc), Q v u → wdC G D cy ad A u s H1 → va_S A s.heap H1 locs1 → W p l e R s m args below meth c H1 locs1 0 0 Qf (F0 m (pc + 3) ls ((vI v).toList ++ rest))) : W p l e R s m args below meth c H locs 0 0 Qf (F0 m pc ls st0) := by
  have hG := (hw.2.1.2.1 i hi.1 hi.2).1
  rcases (show G 1 i = 1 ∨ G 1 i = 3 by omega) with q | q
  · exact call_U (owner := "HammerTowers$Train") (x := ⟨"HammerTowers$Plate", "strokesRound", "(I)I"⟩) hexC F (kX9_strokesRound h hi) 1 tw3_187 tw1_11 tw3_186 tw3_185 hl tw3_182 tw3_186 tw3_187 (by decide +kernel) ⟨Nat.le_trans (by decide) hR.1, Nat.le_trans (by decide) hR.2⟩ (recvT hw hi (C := RX4) (Or.inr (Or.inl ⟨q, rfl⟩))) hA hw hS rfl hsz hst0 hrm hdg kk
  · exact call_U (owner := "HammerTowers$Train") (x := ⟨"HammerTowers$Plate", "strokesRound", "(I)I"⟩) hexC F (kX9_strokesRound h hi) 1 tw3_187 tw1_11 tw3_186 tw3_184 hl tw3_182 tw3_186 tw3_187 (by decide +kernel) ⟨Nat.le_trans (by decide) hR.1, Nat.le_trans (by decide) hR.2⟩ (recvT hw hi (C := RX0) (Or.inr (Or.inr (Or.inr ⟨q, rfl⟩)))) hA hw hS rfl hsz hst0 hrm hdg kk
set_option maxRecDepth 100000 in
set_option maxHeartbeats 4000000 in
theorem dc_Snail_strokesRound {G : GG} {i x1 : Int} {μ : MM} {Q : Int → MM → Prop} {H : Heap} {locs : List Loc} {cc : ByteArray} {pc nL idx : Nat} {ls : Array Slot} {rest st0 : List Value} {own : String} (F : CallFix p m c cc nL s args uw own) (hl : Cond.methodLink own idx ⟨"HammerTowers$Snail", "strokesRound", "(I)I"⟩ ∈ uw) (h : wpX9_strokesRound G i x1 μ Q) (hi : 0 ≤ i ∧ i < G 0 0) (hk : G 1 i = 2) (hR : 1 ≤ R.frames ∧ 22 ≤ R.locals) (hA : ∀ q : Nat, s.heap.size ≤ q → A q) (hw : wdC G D cy ad A μ s H) (hS : va_S A s.heap H locs) (hsz : ls.size = nL) (hst0 : st0 = ([.int (iI x1)] : List Value).reverse ++ .ref (ad 2 i) :: rest) (hrm : (rest.map fun v => v.category).sum ≤ 8) (hdg : decode cc pc = .ok (.invokevirtual idx, 3)) (kk : ∀ (v : Int) (u : MM) (H1 : Heap) (locs1 : List Loc), Q v u → wdC G D cy ad A u s H1 → va_S A s.heap H1 locs1 → W p l e R s m args below meth c H1 locs1 0 0 Qf (F0 m (pc + 3) ls ((vI v).toList ++ rest))) : W p l e R s m args below meth c H locs 0 0 Qf (F0 m pc ls st0) := by
  have hG := (hw.2.1.2.1 i hi.1 hi.2).1
  rcases (show G 1 i = 2 by omega) with q
  · exact call_U (owner := "HammerTowers$Train") (x := ⟨"HammerTowers$Snail", "strokesRound", "(I)I"⟩) hexC F (kX9_strokesRound h hi) 1 tw3_187 tw1_11 tw3_186 tw3_194 hl tw3_193 tw3_186 tw3_187 (by decide +kernel) ⟨Nat.le_trans (by decide) hR.1, Nat.le_trans (by decide) hR.2⟩ (recvT hw hi (C := RX7) (Or.inr (Or.inr (Or.inl ⟨q, rfl⟩)))) hA hw hS rfl hsz hst0 hrm hdg kk
def wpX4_strokesAhead (G : GG) (i : Int) (x1 : Int) (x2 : Int) (μ : MM) (Q : Int → MM → Prop) : Prop := wpX9_strokesRound G i ((μ 2 14 i) + x1) μ (fun v1 μ2 => Q v1 μ2)
set_option maxRecDepth 100000 in
set_option maxHeartbeats 4000000 in
theorem wX4_strokesAhead {G : GG} {Q : Int → MM → Prop} {i : Int} {x1 : Int} {x2 : Int} {μ : MM} {H : Heap} {locs : List Loc} {ls : Array Slot} (F : CallFix p m c cX4_strokesAhead 3 s args uw RX4) (hA : ∀ q : Nat, s.heap.size ≤ q → A q) (hR : 1 ≤ R.frames ∧ 22 ≤ R.locals) (ret : RetI p l e R s m args below meth c cX4_strokesAhead Qf (dmC G) (cfC G) tyC (exC G) D cy ad A Q) (h : wpX4_strokesAhead G i x1 x2 μ Q) (hi_i : 0 ≤ i ∧ i < G 0 0) (hc_i : G 1 i = 1 ∨ G 1 i = 3) (hw : wdC G D cy ad A μ s H) (hS : va_S A s.heap H locs) (hl : lv_has ls 3 [(0, .ref (ad 2 i)), (1, .int (iI x1)), (2, .int (iI x2))]) : W p l e R s m args below meth c H locs 0 0 Qf (F0 m 0 ls []) := by
  have hx := F.1
  have hb := F.2.1
  have hown := F.2.2.2.1
  have hts := F.2.2.2.2
  refine lv_aload_n hx hb dX4_strokesAhead_0 rfl (lv_at hl 0 rfl) ?_
  refine lv_aload_n hx hb dX4_strokesAhead_1 rfl (lv_at hl 0 rfl) ?_
  refine gC_T_at F hw hi_i hc_i tw2_172 (fun _ h => h) dX4_strokesAhead_2 ?_
  refine lv_iload_n hx hb dX4_strokesAhead_5 rfl (lv_at hl 1 rfl) ?_
  refine q_iadd hx hb dX4_strokesAhead_6 ?_
  refine dc_Plate_strokesRound F tw3_181 h hi_i hc_i ⟨Nat.le_trans (by decide) hR.1, Nat.le_trans (by decide) hR.2⟩ hA hw hS hl.1 rfl (Nat.le_of_ble_eq_true rfl) dX4_strokesAhead_7 (fun v1 μ2 H locs h hw hS => ?_)
  exact ret _ _ _ _ _ _ h hw hS dX4_strokesAhead_10
set_option maxRecDepth 100000 in
set_option maxHeartbeats 4000000 in
theorem kX4_strokesAhead {l : Launch} {D : va_G} {cy : Nat → ClassId} {ad : AD} {A : Nat → Prop} {G : GG} {i : Int} {x1 : Int} {x2 : Int} {μ : MM} {Q : Int → MM → Prop} (h : wpX4_strokesAhead G i x1 x2 μ Q) (hi_i : 0 ≤ i ∧ i < G 0 0) (hc_i : G 1 i = 1 ∨ G 1 i = 3) : Met l yX4_strokesAhead (Cond.code yX4_strokesAhead cX4_strokesAhead 3 (some .int) :: uw) (rmm 1 22) (wPc [.ref (ad 2 i), .int (iI x1), .int (iI x2)] (dmC G) (cfC G) tyC (exC G) D cy ad A μ) (wQ vI Q (dmC G) (cfC G) D cy ad A) 0 0 A :=
  met_of (by decide) (Nat.le_of_ble_eq_true rfl) (fun p e R s m args below meth c ls hr hk hRR F hA hw hS hl => wX4_strokesAhead F hA (by subst hRR; exact ⟨Nat.le_refl _, Nat.le_refl _⟩) (retI_of F hr hk) h hi_i hc_i hw hS hl)
theorem hdX4_strokesAhead : yX4_strokesAhead.cls ≠ "java/lang/invoke/MethodHandle" ∧ yX4_strokesAhead.cls ≠ "java/lang/invoke/VarHandle" ∧ (parseMethodDescriptor yX4_strokesAhead.desc).map (fun d => d.parameters.length) = some 2 := by decide +kernel
def wpX7_strokesAhead_J12 (G : GG) (Q : Int → MM → Prop) (t0 : Int) (t1 : Int) (t2 : Int) (μ : MM) : Prop := rg t1 ∧ (rg t2 ∧ (t2 ≠ 0 ∧ (wpX9_strokesRound G t0 (Int.tmod t1 t2) μ (fun v4 μ5 => Q v4 μ5))))
set_option maxRecDepth 100000 in
set_option maxHeartbeats 4000000 in
theorem wX7_strokesAhead_J12 {G : GG} {Q : Int → MM → Prop} {t0 : Int} {t1 : Int} {t2 : Int} {μ : MM} {H : Heap} {locs : List Loc} {ls : Array Slot} (F : CallFix p m c cX7_strokesAhead 3 s args uw RX7) (hA : ∀ q : Nat, s.heap.size ≤ q → A q) (hR : 1 ≤ R.frames ∧ 22 ≤ R.locals) (ret : RetI p l e R s m args below meth c cX7_strokesAhead Qf (dmC G) (cfC G) tyC (exC G) D cy ad A Q) (h : wpX7_strokesAhead_J12 G Q t0 t1 t2 μ) (hi_t0 : 0 ≤ t0 ∧ t0 < G 0 0) (hc_t0 : G 1 t0 = 2) (hw : wdC G D cy ad A μ s H) (hS : va_S A s.heap H locs) (hl : lv_has ls 3 []) : W p l e R s m args below meth c H locs 0 0 Qf (F0 m 12 ls [.int (iI t2), .int (iI t1), .ref (ad 2 t0)]) := by
  have hx := F.1
  have hb := F.2.1
  have hown := F.2.2.2.1
  have hts := F.2.2.2.2
  obtain ⟨g1, h⟩ := h
  obtain ⟨g2, h⟩ := h
  obtain ⟨g3, h⟩ := h
  refine q_irem hx hb g1 g2 g3 dX7_strokesAhead_12 ?_
  refine dc_Snail_strokesRound F tw3_192 h hi_t0 hc_t0 ⟨Nat.le_trans (by decide) hR.1, Nat.le_trans (by decide) hR.2⟩ hA hw hS hl.1 rfl (Nat.le_of_ble_eq_true rfl) dX7_strokesAhead_13 (fun v4 μ5 H locs h hw hS => ?_)
  exact ret _ _ _ _ _ _ h hw hS dX7_strokesAhead_16
def wpX7_strokesAhead (G : GG) (i : Int) (x1 : Int) (x2 : Int) (μ : MM) (Q : Int → MM → Prop) : Prop := rg x2 ∧ (if x2 = 0 then (wpX7_strokesAhead_J12 G Q i x1 12 μ) else (wpX7_strokesAhead_J12 G Q i x1 4 μ))
set_option maxRecDepth 100000 in
set_option maxHeartbeats 4000000 in
theorem wX7_strokesAhead {G : GG} {Q : Int → MM → Prop} {i : Int} {x1 : Int} {x2 : Int} {μ : MM} {H : Heap} {locs : List Loc} {ls : Array Slot} (F : CallFix p m c cX7_strokesAhead 3 s args uw RX7) (hA : ∀ q : Nat, s.heap.size ≤ q → A q) (hR : 1 ≤ R.frames ∧ 22 ≤ R.locals) (ret : RetI p l e R s m args below meth c cX7_strokesAhead Qf (dmC G) (cfC G) tyC (exC G) D cy ad A Q) (h : wpX7_strokesAhead G i x1 x2 μ Q) (hi_i : 0 ≤ i ∧ i < G 0 0) (hc_i : G 1 i = 2) (hw : wdC G D cy ad A μ s H) (hS : va_S A s.heap H locs) (hl : lv_has ls 3 [(0, .ref (ad 2 i)), (1, .int (iI x1)), (2, .int (iI x2))]) : W p l e R s m args below meth c H locs 0 0 Qf (F0 m 0 ls []) := by
  have hx := F.1
  have hb := F.2.1
  have hown := F.2.2.2.1
  have hts := F.2.2.2.2
  refine lv_aload_n hx hb dX7_strokesAhead_0 rfl (lv_at hl 0 rfl) ?_
  refine lv_iload_n hx hb dX7_strokesAhead_1 rfl (lv_at hl 1 rfl) ?_
  refine lv_iload_n hx hb dX7_strokesAhead_2 rfl (lv_at hl 2 rfl) ?_
  obtain ⟨g1, h⟩ := h
  refine q_if_eq (tgt := 10) hx hb g1 dX7_strokesAhead_3 (by decide) (fun c2 => ?_) (fun c2 => ?_)
  · have h := ite_t c2 h
    refine q_bipush hx hb (by decide) dX7_strokesAhead_10 ?_
    exact wX7_strokesAhead_J12 F hA hR ret h hi_i hc_i hw hS (lv_sub hl [] rfl)
  · have h := ite_f c2 h
    refine q_iconst hx hb dX7_strokesAhead_6 ?_
    refine lv_goto (tgt := 12) hx hb dX7_strokesAhead_7 (by decide) ?_
    exact wX7_strokesAhead_J12 F hA hR ret h hi_i hc_i hw hS (lv_sub hl [] rfl)
set_option maxRecDepth 100000 in
set_option maxHeartbeats 4000000 in
theorem kX7_strokesAhead {l : Launch} {D : va_G} {cy : Nat → ClassId} {ad : AD} {A : Nat → Prop} {G : GG} {i : Int} {x1 : Int} {x2 : Int} {μ : MM} {Q : Int → MM → Prop} (h : wpX7_strokesAhead G i x1 x2 μ Q) (hi_i : 0 ≤ i ∧ i < G 0 0) (hc_i : G 1 i = 2) : Met l yX7_strokesAhead (Cond.code yX7_strokesAhead cX7_strokesAhead 3 (some .int) :: uw) (rmm 1 22) (wPc [.ref (ad 2 i), .int (iI x1), .int (iI x2)] (dmC G) (cfC G) tyC (exC G) D cy ad A μ) (wQ vI Q (dmC G) (cfC G) D cy ad A) 0 0 A :=
  met_of (by decide) (Nat.le_of_ble_eq_true rfl) (fun p e R s m args below meth c ls hr hk hRR F hA hw hS hl => wX7_strokesAhead F hA (by subst hRR; exact ⟨Nat.le_refl _, Nat.le_refl _⟩) (retI_of F hr hk) h hi_i hc_i hw hS hl)
theorem hdX7_strokesAhead : yX7_strokesAhead.cls ≠ "java/lang/invoke/MethodHandle" ∧ yX7_strokesAhead.cls ≠ "java/lang/invoke/VarHandle" ∧ (parseMethodDescriptor yX7_strokesAhead.desc).map (fun d => d.parameters.length) = some 2 := by decide +kernel
def wpX9_strokesAhead (G : GG) (i : Int) (x1 : Int) (x2 : Int) (μ : MM) (Q : Int → MM → Prop) : Prop := Q 1 μ
set_option maxRecDepth 100000 in
set_option maxHeartbeats 4000000 in
theorem wX9_strokesAhead {G : GG} {Q : Int → MM → Prop} {i : Int} {x1 : Int} {x2 : Int} {μ : MM} {H : Heap} {locs : List Loc} {ls : Array Slot} (F : CallFix p m c cX9_strokesAhead 3 s args uw RX9) (hA : ∀ q : Nat, s.heap.size ≤ q → A q) (hR : 0 ≤ R.frames ∧ 0 ≤ R.locals) (ret : RetI p l e R s m args below meth c cX9_strokesAhead Qf (dmC G) (cfC G) tyC (exC G) D cy ad A Q) (h : wpX9_strokesAhead G i x1 x2 μ Q) (hi_i : 0 ≤ i ∧ i < G 0 0) (hw : wdC G D cy ad A μ s H) (hS : va_S A s.heap H locs) (hl : lv_has ls 3 [(0, .ref (ad 2 i)), (1, .int (iI x1)), (2, .int (iI x2))]) : W p l e R s m args below meth c H locs 0 0 Qf (F0 m 0 ls []) := by
  have hx := F.1
  have hb := F.2.1
  have hown := F.2.2.2.1
  have hts := F.2.2.2.2
  refine q_iconst hx hb dX9_strokesAhead_0 ?_
  exact ret _ _ _ _ _ _ h hw hS dX9_strokesAhead_1
set_option maxRecDepth 100000 in
set_option maxHeartbeats 4000000 in
theorem kX9_strokesAhead {l : Launch} {D : va_G} {cy : Nat → ClassId} {ad : AD} {A : Nat → Prop} {G : GG} {i : Int} {x1 : Int} {x2 : Int} {μ : MM} {Q : Int → MM → Prop} (h : wpX9_strokesAhead G i x1 x2 μ Q) (hi_i : 0 ≤ i ∧ i < G 0 0) : Met l yX9_strokesAhead (Cond.code yX9_strokesAhead cX9_strokesAhead 3 (some .int) :: uw) (rmm 0 0) (wPc [.ref (ad 2 i), .int (iI x1), .int (iI x2)] (dmC G) (cfC G) tyC (exC G) D cy ad A μ) (wQ vI Q (dmC G) (cfC G) D cy ad A) 0 0 A :=
  met_of (by decide) (Nat.le_of_ble_eq_true rfl) (fun p e R s m args below meth c ls hr hk hRR F hA hw hS hl => wX9_strokesAhead F hA (by subst hRR; exact ⟨Nat.le_refl _, Nat.le_refl _⟩) (retI_of F hr hk) h hi_i hw hS hl)
theorem hdX9_strokesAhead : yX9_strokesAhead.cls ≠ "java/lang/invoke/MethodHandle" ∧ yX9_strokesAhead.cls ≠ "java/lang/invoke/VarHandle" ∧ (parseMethodDescriptor yX9_strokesAhead.desc).map (fun d => d.parameters.length) = some 2 := by decide +kernel
def wpD_strokesAhead (G : GG) (i : Int) (x1 : Int) (x2 : Int) (μ : MM) (Q : Int → MM → Prop) : Prop := if G 1 i = 0 then wpX9_strokesAhead G i x1 x2 μ Q else if G 1 i = 1 then wpX4_strokesAhead G i x1 x2 μ Q else if G 1 i = 2 then wpX7_strokesAhead G i x1 x2 μ Q else wpX4_strokesAhead G i x1 x2 μ Q
set_option maxRecDepth 100000 in
set_option maxHeartbeats 4000000 in
theorem dc_Train_strokesAhead {G : GG} {i x1 x2 : Int} {μ : MM} {Q : Int → MM → Prop} {H : Heap} {locs : List Loc} {cc : ByteArray} {pc nL idx : Nat} {ls : Array Slot} {rest st0 : List Value} {own : String} (F : CallFix p m c cc nL s args uw own) (hl : Cond.methodLink own idx yX9_strokesAhead ∈ uw) (h : wpD_strokesAhead G i x1 x2 μ Q) (hi : 0 ≤ i ∧ i < G 0 0) (hR : 2 ≤ R.frames ∧ 44 ≤ R.locals) (hA : ∀ q : Nat, s.heap.size ≤ q → A q) (hw : wdC G D cy ad A μ s H) (hS : va_S A s.heap H locs) (hsz : ls.size = nL) (hst0 : st0 = ([.int (iI x1), .int (iI x2)] : List Value).reverse ++ .ref (ad 2 i) :: rest) (hrm : (rest.map fun v => v.category).sum ≤ 8) (hdg : decode cc pc = .ok (.invokevirtual idx, 3)) (kk : ∀ (v : Int) (u : MM) (H1 : Heap) (locs1 : List Loc), Q v u → wdC G D cy ad A u s H1 → va_S A s.heap H1 locs1 → W p l e R s m args below meth c H1 locs1 0 0 Qf (F0 m (pc + 3) ls ((vI v).toList ++ rest))) : W p l e R s m args below meth c H locs 0 0 Qf (F0 m pc ls st0) := by
  have hG := (hw.2.1.2.1 i hi.1 hi.2).1
  rcases (show G 1 i = 0 ∨ G 1 i = 1 ∨ G 1 i = 2 ∨ G 1 i = 3 by omega) with q | q | q | q
  · have h := ite_t q h
    exact call_V hexC F (kX9_strokesAhead h hi) 2 tw5_40 tw1_11 tw5_30 tw5_31 hl hdX9_strokesAhead ⟨Nat.le_trans (by decide) hR.1, Nat.le_trans (by decide) hR.2⟩ (recvT hw hi (C := RX9) (Or.inl ⟨q, rfl⟩)) hA hw hS rfl hsz hst0 hrm hdg kk
  · have h := ite_f (show ¬ G 1 i = 0 by omega) h
    have h := ite_t q h
    exact call_U (owner := "HammerTowers$Train") (x := yX9_strokesAhead) hexC F (kX4_strokesAhead h hi (by omega)) 2 tw5_35 tw1_12 tw5_34 tw5_36 hl tw5_32 tw5_30 tw5_40 (by decide +kernel) ⟨Nat.le_trans (by decide) hR.1, Nat.le_trans (by decide) hR.2⟩ (recvT hw hi (C := RX4) (Or.inr (Or.inl ⟨q, rfl⟩))) hA hw hS rfl hsz hst0 hrm hdg kk
  · have h := ite_f (show ¬ G 1 i = 0 by omega) h
    have h := ite_f (show ¬ G 1 i = 1 by omega) h
    have h := ite_t q h
    exact call_U (owner := "HammerTowers$Train") (x := yX9_strokesAhead) hexC F (kX7_strokesAhead h hi q) 2 tw5_39 tw1_14 tw5_38 tw5_37 hl tw5_32 tw5_30 tw5_40 (by decide +kernel) ⟨Nat.le_trans (by decide) hR.1, Nat.le_trans (by decide) hR.2⟩ (recvT hw hi (C := RX7) (Or.inr (Or.inr (Or.inl ⟨q, rfl⟩)))) hA hw hS rfl hsz hst0 hrm hdg kk
  · have h := ite_f (show ¬ G 1 i = 0 by omega) h
    have h := ite_f (show ¬ G 1 i = 1 by omega) h
    have h := ite_f (show ¬ G 1 i = 2 by omega) h
    exact call_U (owner := "HammerTowers$Train") (x := yX9_strokesAhead) hexC F (kX4_strokesAhead h hi (by omega)) 2 tw5_35 tw1_12 tw5_34 tw5_33 hl tw5_32 tw5_30 tw5_40 (by decide +kernel) ⟨Nat.le_trans (by decide) hR.1, Nat.le_trans (by decide) hR.2⟩ (recvT hw hi (C := RX0) (Or.inr (Or.inr (Or.inr ⟨q, rfl⟩)))) hA hw hS rfl hsz hst0 hrm hdg kk
def wpX9_strokesOfDay_L17 (G : GG) (Q : Int → MM → Prop) : Nat → Int → Int → Int → Int → Int → MM → Prop
  | 0, _, _, _, _, _, _ => False
  | n + 1, i, x1, x2, x3, x4, μ => rg x4 ∧ (rg x2 ∧ (if x2 ≤ x4 then (Q x3 μ) else (wpD_strokesAhead G i x4 x1 μ (fun v4 μ5 => wpX9_strokesOfDay_L17 G Q n i x1 x2 (x3 + v4) (x4 + 1) μ5))))
set_option maxRecDepth 100000 in
set_option maxHeartbeats 4000000 in
theorem wX9_strokesOfDay_L17 {G : GG} {Q : Int → MM → Prop} (F : CallFix p m c cX9_strokesOfDay 5 s args uw RX9) (hA : ∀ q : Nat, s.heap.size ≤ q → A q) (hR : 2 ≤ R.frames ∧ 44 ≤ R.locals) (ret : RetI p l e R s m args below meth c cX9_strokesOfDay Qf (dmC G) (cfC G) tyC (exC G) D cy ad A Q) : ∀ (n : Nat) (i x1 x2 x3 x4 : Int) (μ : MM) (H : Heap) (locs : List Loc) (ls : Array Slot), wpX9_strokesOfDay_L17 G Q n i x1 x2 x3 x4 μ → 0 ≤ i ∧ i < G 0 0 → wdC G D cy ad A μ s H → va_S A s.heap H locs → lv_has ls 5 [(0, .ref (ad 2 i)), (1, .int (iI x1)), (2, .int (iI x2)), (3, .int (iI x3)), (4, .int (iI x4))] → W p l e R s m args below meth c H locs 0 0 Qf (F0 m 17 ls []) := by
  have hx := F.1
  have hb := F.2.1
  have hown := F.2.2.2.1
  have hts := F.2.2.2.2
  intro n
  induction n with
  | zero =>
    intro i x1 x2 x3 x4 μ H locs ls h hi_i hw hS hl
    exact h.elim
  | succ n ih =>
    intro i x1 x2 x3 x4 μ H locs ls h hi_i hw hS hl
    refine lv_iload hx hb dX9_strokesOfDay_17 (lv_at hl 4 rfl) ?_
    refine lv_iload_n hx hb dX9_strokesOfDay_19 rfl (lv_at hl 2 rfl) ?_
    obtain ⟨g1, h⟩ := h
    obtain ⟨g2, h⟩ := h
    refine q_icmp_ge (tgt := 39) hx hb g1 g2 dX9_strokesOfDay_20 (by decide) (fun c3 => ?_) (fun c3 => ?_)
    · have h := ite_t c3 h
      refine lv_iload_n hx hb dX9_strokesOfDay_39 rfl (lv_at hl 3 rfl) ?_
      exact ret _ _ _ _ _ _ h hw hS dX9_strokesOfDay_40
    · have h := ite_f c3 h
      refine lv_iload_n hx hb dX9_strokesOfDay_23 rfl (lv_at hl 3 rfl) ?_
      refine lv_aload_n hx hb dX9_strokesOfDay_24 rfl (lv_at hl 0 rfl) ?_
      refine lv_iload hx hb dX9_strokesOfDay_25 (lv_at hl 4 rfl) ?_
      refine lv_iload_n hx hb dX9_strokesOfDay_27 rfl (lv_at hl 1 rfl) ?_
      refine dc_Train_strokesAhead F tw5_29 h hi_i ⟨Nat.le_trans (by decide) hR.1, Nat.le_trans (by decide) hR.2⟩ hA hw hS hl.1 rfl (Nat.le_of_ble_eq_true rfl) dX9_strokesOfDay_28 (fun v4 μ5 H locs h hw hS => ?_)
      refine q_iadd hx hb dX9_strokesOfDay_31 ?_
      refine lv_istore_n (lv' := [(3, .int (iI (x3 + v4))), (0, .ref (ad 2 i)), (1, .int (iI x1)), (2, .int (iI x2)), (4, .int (iI x4))]) hx hb dX9_strokesOfDay_32 rfl hl (by decide) rfl (fun ls hl => ?_)
      refine q_iinc (k := 4) (lv' := [(4, .int (iI (x4 + 1))), (3, .int (iI (x3 + v4))), (0, .ref (ad 2 i)), (1, .int (iI x1)), (2, .int (iI x2))]) hx hb dX9_strokesOfDay_33 hl rfl (by decide) rfl (fun ls hl => ?_)
      refine lv_goto (tgt := 17) hx hb dX9_strokesOfDay_36 (by decide) ?_
      exact ih i x1 x2 (x3 + v4) (x4 + 1) _ _ _ _ h hi_i hw hS (lv_sub hl [2, 3, 4, 1, 0] rfl)
def wpX9_strokesOfDay_J11 (G : GG) (Q : Int → MM → Prop) (i : Int) (x1 : Int) (t0 : Int) (μ : MM) : Prop := ∃ n1 : Nat, wpX9_strokesOfDay_L17 G Q n1 i x1 t0 0 0 μ
set_option maxRecDepth 100000 in
set_option maxHeartbeats 4000000 in
theorem wX9_strokesOfDay_J11 {G : GG} {Q : Int → MM → Prop} {i : Int} {x1 : Int} {t0 : Int} {μ : MM} {H : Heap} {locs : List Loc} {ls : Array Slot} (F : CallFix p m c cX9_strokesOfDay 5 s args uw RX9) (hA : ∀ q : Nat, s.heap.size ≤ q → A q) (hR : 2 ≤ R.frames ∧ 44 ≤ R.locals) (ret : RetI p l e R s m args below meth c cX9_strokesOfDay Qf (dmC G) (cfC G) tyC (exC G) D cy ad A Q) (h : wpX9_strokesOfDay_J11 G Q i x1 t0 μ) (hi_i : 0 ≤ i ∧ i < G 0 0) (hw : wdC G D cy ad A μ s H) (hS : va_S A s.heap H locs) (hl : lv_has ls 5 [(0, .ref (ad 2 i)), (1, .int (iI x1))]) : W p l e R s m args below meth c H locs 0 0 Qf (F0 m 11 ls [.int (iI t0)]) := by
  have hx := F.1
  have hb := F.2.1
  have hown := F.2.2.2.1
  have hts := F.2.2.2.2
  refine lv_istore_n (lv' := [(2, .int (iI t0)), (0, .ref (ad 2 i)), (1, .int (iI x1))]) hx hb dX9_strokesOfDay_11 rfl hl (by decide) rfl (fun ls hl => ?_)
  refine q_iconst hx hb dX9_strokesOfDay_12 ?_
  refine lv_istore_n (lv' := [(3, .int (iI 0)), (2, .int (iI t0)), (0, .ref (ad 2 i)), (1, .int (iI x1))]) hx hb dX9_strokesOfDay_13 rfl hl (by decide) rfl (fun ls hl => ?_)
  refine q_iconst hx hb dX9_strokesOfDay_14 ?_
  refine lv_istore (lv' := [(4, .int (iI 0)), (3, .int (iI 0)), (2, .int (iI t0)), (0, .ref (ad 2 i)), (1, .int (iI x1))]) hx hb dX9_strokesOfDay_15 hl (by decide) rfl (fun ls hl => ?_)
  obtain ⟨n1, h⟩ := h
  exact wX9_strokesOfDay_L17 F hA hR ret n1 i x1 t0 0 0 _ _ _ _ h hi_i hw hS (lv_sub hl [3, 4, 2, 1, 0] rfl)
def wpX9_strokesOfDay (G : GG) (i : Int) (x1 : Int) (μ : MM) (Q : Int → MM → Prop) : Prop := rg x1 ∧ (if x1 = 0 then (wpX9_strokesOfDay_J11 G Q i x1 24 μ) else (wpX9_strokesOfDay_J11 G Q i x1 96 μ))
set_option maxRecDepth 100000 in
set_option maxHeartbeats 4000000 in
theorem wX9_strokesOfDay {G : GG} {Q : Int → MM → Prop} {i : Int} {x1 : Int} {μ : MM} {H : Heap} {locs : List Loc} {ls : Array Slot} (F : CallFix p m c cX9_strokesOfDay 5 s args uw RX9) (hA : ∀ q : Nat, s.heap.size ≤ q → A q) (hR : 2 ≤ R.frames ∧ 44 ≤ R.locals) (ret : RetI p l e R s m args below meth c cX9_strokesOfDay Qf (dmC G) (cfC G) tyC (exC G) D cy ad A Q) (h : wpX9_strokesOfDay G i x1 μ Q) (hi_i : 0 ≤ i ∧ i < G 0 0) (hw : wdC G D cy ad A μ s H) (hS : va_S A s.heap H locs) (hl : lv_has ls 5 [(0, .ref (ad 2 i)), (1, .int (iI x1))]) : W p l e R s m args below meth c H locs 0 0 Qf (F0 m 0 ls []) := by
  have hx := F.1
  have hb := F.2.1
  have hown := F.2.2.2.1
  have hts := F.2.2.2.2
  refine lv_iload_n hx hb dX9_strokesOfDay_0 rfl (lv_at hl 1 rfl) ?_
  obtain ⟨g1, h⟩ := h
  refine q_if_eq (tgt := 9) hx hb g1 dX9_strokesOfDay_1 (by decide) (fun c2 => ?_) (fun c2 => ?_)
  · have h := ite_t c2 h
    refine q_bipush hx hb (by decide) dX9_strokesOfDay_9 ?_
    exact wX9_strokesOfDay_J11 F hA hR ret h hi_i hw hS (lv_sub hl [0, 1] rfl)
  · have h := ite_f c2 h
    refine q_bipush hx hb (by decide) dX9_strokesOfDay_4 ?_
    refine lv_goto (tgt := 11) hx hb dX9_strokesOfDay_6 (by decide) ?_
    exact wX9_strokesOfDay_J11 F hA hR ret h hi_i hw hS (lv_sub hl [0, 1] rfl)
set_option maxRecDepth 100000 in
set_option maxHeartbeats 4000000 in
theorem kX9_strokesOfDay {l : Launch} {D : va_G} {cy : Nat → ClassId} {ad : AD} {A : Nat → Prop} {G : GG} {i : Int} {x1 : Int} {μ : MM} {Q : Int → MM → Prop} (h : wpX9_strokesOfDay G i x1 μ Q) (hi_i : 0 ≤ i ∧ i < G 0 0) : Met l yX9_strokesOfDay (Cond.code yX9_strokesOfDay cX9_strokesOfDay 5 (some .int) :: uw) (rmm 2 44) (wPc [.ref (ad 2 i), .int (iI x1)] (dmC G) (cfC G) tyC (exC G) D cy ad A μ) (wQ vI Q (dmC G) (cfC G) D cy ad A) 0 0 A :=
  met_of (by decide) (Nat.le_of_ble_eq_true rfl) (fun p e R s m args below meth c ls hr hk hRR F hA hw hS hl => wX9_strokesOfDay F hA (by subst hRR; exact ⟨Nat.le_refl _, Nat.le_refl _⟩) (retI_of F hr hk) h hi_i hw hS hl)
theorem hdX9_strokesOfDay : yX9_strokesOfDay.cls ≠ "java/lang/invoke/MethodHandle" ∧ yX9_strokesOfDay.cls ≠ "java/lang/invoke/VarHandle" ∧ (parseMethodDescriptor yX9_strokesOfDay.desc).map (fun d => d.parameters.length) = some 1 := by decide +kernel
set_option maxRecDepth 100000 in
set_option maxHeartbeats 4000000 in
theorem dc_Train_strokesOfDay {G : GG} {i x1 : Int} {μ : MM} {Q : Int → MM → Prop} {H : Heap} {locs : List Loc} {cc : ByteArray} {pc nL idx : Nat} {ls : Array Slot} {rest st0 : List Value} {own : String} (F : CallFix p m c cc nL s args uw own) (hl : Cond.methodLink own idx yX9_strokesOfDay ∈ uw) (h : wpX9_strokesOfDay G i x1 μ Q) (hi : 0 ≤ i ∧ i < G 0 0) (hR : 3 ≤ R.frames ∧ 68 ≤ R.locals) (hA : ∀ q : Nat, s.heap.size ≤ q → A q) (hw : wdC G D cy ad A μ s H) (hS : va_S A s.heap H locs) (hsz : ls.size = nL) (hst0 : st0 = ([.int (iI x1)] : List Value).reverse ++ .ref (ad 2 i) :: rest) (hrm : (rest.map fun v => v.category).sum ≤ 8) (hdg : decode cc pc = .ok (.invokevirtual idx, 3)) (kk : ∀ (v : Int) (u : MM) (H1 : Heap) (locs1 : List Loc), Q v u → wdC G D cy ad A u s H1 → va_S A s.heap H1 locs1 → W p l e R s m args below meth c H1 locs1 0 0 Qf (F0 m (pc + 3) ls ((vI v).toList ++ rest))) : W p l e R s m args below meth c H locs 0 0 Qf (F0 m pc ls st0) := by
  have hG := (hw.2.1.2.1 i hi.1 hi.2).1
  rcases (show G 1 i = 0 ∨ G 1 i = 1 ∨ G 1 i = 2 ∨ G 1 i = 3 by omega) with q | q | q | q
  · exact call_V hexC F (kX9_strokesOfDay h hi) 1 tw5_28 tw1_11 tw5_22 tw5_23 hl hdX9_strokesOfDay ⟨Nat.le_trans (by decide) hR.1, Nat.le_trans (by decide) hR.2⟩ (recvT hw hi (C := RX9) (Or.inl ⟨q, rfl⟩)) hA hw hS rfl hsz hst0 hrm hdg kk
  · exact call_U (owner := "HammerTowers$Train") (x := yX9_strokesOfDay) hexC F (kX9_strokesOfDay h hi) 1 tw5_28 tw1_11 tw5_22 tw5_26 hl tw5_24 tw5_22 tw5_28 (by decide +kernel) ⟨Nat.le_trans (by decide) hR.1, Nat.le_trans (by decide) hR.2⟩ (recvT hw hi (C := RX4) (Or.inr (Or.inl ⟨q, rfl⟩))) hA hw hS rfl hsz hst0 hrm hdg kk
  · exact call_U (owner := "HammerTowers$Train") (x := yX9_strokesOfDay) hexC F (kX9_strokesOfDay h hi) 1 tw5_28 tw1_11 tw5_22 tw5_27 hl tw5_24 tw5_22 tw5_28 (by decide +kernel) ⟨Nat.le_trans (by decide) hR.1, Nat.le_trans (by decide) hR.2⟩ (recvT hw hi (C := RX7) (Or.inr (Or.inr (Or.inl ⟨q, rfl⟩)))) hA hw hS rfl hsz hst0 hrm hdg kk
  · exact call_U (owner := "HammerTowers$Train") (x := yX9_strokesOfDay) hexC F (kX9_strokesOfDay h hi) 1 tw5_28 tw1_11 tw5_22 tw5_25 hl tw5_24 tw5_22 tw5_28 (by decide +kernel) ⟨Nat.le_trans (by decide) hR.1, Nat.le_trans (by decide) hR.2⟩ (recvT hw hi (C := RX0) (Or.inr (Or.inr (Or.inr ⟨q, rfl⟩)))) hA hw hS rfl hsz hst0 hrm hdg kk
def wpX10_daily (G : GG) (x1 : Int) (x2 : Int) (μ : MM) (Q : Int → MM → Prop) : Prop := wpX10_trainOf G x1 μ (fun v1 μ2 => if v1 < 0 then (Q (-1) μ2) else (v1 < G 0 0 ∧ (wpX9_strokesOfDay G v1 x2 μ2 (fun v6 μ7 => Q v6 μ7))))
set_option maxRecDepth 100000 in
set_option maxHeartbeats 4000000 in
theorem wX10_daily {G : GG} {Q : Int → MM → Prop} {x1 : Int} {x2 : Int} {μ : MM} {H : Heap} {locs : List Loc} {ls : Array Slot} (F : CallFix p m c cX10_daily 4 s args uw RX10) (hA : ∀ q : Nat, s.heap.size ≤ q → A q) (hR : 3 ≤ R.frames ∧ 68 ≤ R.locals) (ret : RetI p l e R s m args below meth c cX10_daily Qf (dmC G) (cfC G) tyC (exC G) D cy ad A Q) (h : wpX10_daily G x1 x2 μ Q) (hw : wdC G D cy ad A μ s H) (hS : va_S A s.heap H locs) (hl : lv_has ls 4 [(0, .ref (ad 0 0)), (1, .int (iI x1)), (2, .int (iI x2))]) : W p l e R s m args below meth c H locs 0 0 Qf (F0 m 0 ls []) := by
  have hx := F.1
  have hb := F.2.1
  have hown := F.2.2.2.1
  have hts := F.2.2.2.2
  refine lv_aload_n hx hb dX10_daily_0 rfl (lv_at hl 0 rfl) ?_
  refine lv_iload_n hx hb dX10_daily_1 rfl (lv_at hl 1 rfl) ?_
  refine call_V hexC F (kX10_trainOf h) 1 tw3_18 tw1_1 tw3_17 tws1_4 tw3_15 hdX10_trainOf ⟨Nat.le_trans (by decide) hR.1, Nat.le_trans (by decide) hR.2⟩ (hw.recv (k := 0) (i := 0) rfl rfl rfl) hA hw hS rfl hl.1 rfl (Nat.le_of_ble_eq_true rfl) dX10_daily_2 (fun v1 μ2 H locs h hw hS => ?_)
  refine q_astore_n (lv' := [(3, rf ad 2 v1), (0, .ref (ad 0 0)), (1, .int (iI x1)), (2, .int (iI x2))]) hx hb dX10_daily_5 rfl hl (by decide) rfl (fun ls hl => ?_)
  refine q_aload_n hx hb dX10_daily_6 rfl (lv_at hl 0 rfl) ?_
  refine q_ifnonnull (tgt := 14) hx hb dX10_daily_7 (by decide) (fun c3 => ?_) (fun c3 => ?_)
  · have h := ite_t c3 h
    refine q_iconst hx hb dX10_daily_10 ?_
    refine lv_goto (tgt := 19) hx hb dX10_daily_11 (by decide) ?_
    exact ret _ _ _ _ _ _ h hw hS dX10_daily_19
  · have h := ite_f c3 h
    obtain ⟨g4, h⟩ := h
    have hi5 : 0 ≤ v1 ∧ v1 < G 0 0 := ⟨by omega, g4⟩
    have hl : lv_has ls 4 [(3, .ref (ad 2 v1)), (0, .ref (ad 0 0)), (1, .int (iI x1)), (2, .int (iI x2))] := by rw [← rf_pos (ad := ad) (k := 2) hi5.1]; exact hl
    refine lv_aload_n hx hb dX10_daily_14 rfl (lv_at hl 0 rfl) ?_
    refine lv_iload_n hx hb dX10_daily_15 rfl (lv_at hl 3 rfl) ?_
    refine dc_Train_strokesOfDay F tw5_21 h hi5 ⟨Nat.le_trans (by decide) hR.1, Nat.le_trans (by decide) hR.2⟩ hA hw hS hl.1 rfl (Nat.le_of_ble_eq_true rfl) dX10_daily_16 (fun v6 μ7 H locs h hw hS => ?_)
    exact ret _ _ _ _ _ _ h hw hS dX10_daily_19
set_option maxRecDepth 100000 in
set_option maxHeartbeats 4000000 in
theorem kX10_daily {l : Launch} {D : va_G} {cy : Nat → ClassId} {ad : AD} {A : Nat → Prop} {G : GG} {x1 : Int} {x2 : Int} {μ : MM} {Q : Int → MM → Prop} (h : wpX10_daily G x1 x2 μ Q) : Met l yX10_daily (Cond.code yX10_daily cX10_daily 4 (some .int) :: uw) (rmm 3 68) (wPc [.ref (ad 0 0), .int (iI x1), .int (iI x2)] (dmC G) (cfC G) tyC (exC G) D cy ad A μ) (wQ vI Q (dmC G) (cfC G) D cy ad A) 0 0 A :=
  met_of (by decide) (Nat.le_of_ble_eq_true rfl) (fun p e R s m args below meth c ls hr hk hRR F hA hw hS hl => wX10_daily F hA (by subst hRR; exact ⟨Nat.le_refl _, Nat.le_refl _⟩) (retI_of F hr hk) h hw hS hl)
theorem hdX10_daily : yX10_daily.cls ≠ "java/lang/invoke/MethodHandle" ∧ yX10_daily.cls ≠ "java/lang/invoke/VarHandle" ∧ (parseMethodDescriptor yX10_daily.desc).map (fun d => d.parameters.length) = some 2 := by decide +kernel
def wpX10_mix (G : GG) (x0 : Int) (x2 : Int) (μ : MM) (Q : Int → MM → Prop) : Prop := Q ((31 * x0) + x2) μ
set_option maxRecDepth 100000 in
set_option maxHeartbeats 4000000 in
theorem wX10_mix {G : GG} {Q : Int → MM → Prop} {x0 : Int} {x2 : Int} {μ : MM} {H : Heap} {locs : List Loc} {ls : Array Slot} (F : CallFix p m c cX10_mix 4 s args uw RX10) (hA : ∀ q : Nat, s.heap.size ≤ q → A q) (hR : 0 ≤ R.frames ∧ 0 ≤ R.locals) (ret : RetL p l e R s m args below meth c cX10_mix Qf (dmC G) (cfC G) tyC (exC G) D cy ad A Q) (h : wpX10_mix G x0 x2 μ Q) (hw : wdC G D cy ad A μ s H) (hS : va_S A s.heap H locs) (hl : lv_has ls 4 [(0, .long (lJ x0)), (2, .long (lJ x2))]) : W p l e R s m args below meth c H locs 0 0 Qf (F0 m 0 ls []) := by
  have hx := F.1
  have hb := F.2.1
  have hown := F.2.2.2.1
  have hts := F.2.2.2.2
  refine q_ldc2 (n := 31) hx hb hown (hts _ tw5_114) (by decide) dX10_mix_0 ?_
  refine lv_lload_n hx hb dX10_mix_3 rfl (lv_at hl 0 rfl) ?_
  refine q_lmul hx hb dX10_mix_4 ?_
  refine lv_lload_n hx hb dX10_mix_5 rfl (lv_at hl 1 rfl) ?_
  refine q_ladd hx hb dX10_mix_6 ?_
  exact ret _ _ _ _ _ _ h hw hS dX10_mix_7
set_option maxRecDepth 100000 in
set_option maxHeartbeats 4000000 in
theorem kX10_mix {l : Launch} {D : va_G} {cy : Nat → ClassId} {ad : AD} {A : Nat → Prop} {G : GG} {x0 : Int} {x2 : Int} {μ : MM} {Q : Int → MM → Prop} (h : wpX10_mix G x0 x2 μ Q) : Met l yX10_mix (Cond.code yX10_mix cX10_mix 4 (some .long) :: uw) (rmm 0 0) (wPc [.long (lJ x0), .long (lJ x2)] (dmC G) (cfC G) tyC (exC G) D cy ad A μ) (wQ vL Q (dmC G) (cfC G) D cy ad A) 0 0 A :=
  met_of (by decide) (Nat.le_of_ble_eq_true rfl) (fun p e R s m args below meth c ls hr hk hRR F hA hw hS hl => wX10_mix F hA (by subst hRR; exact ⟨Nat.le_refl _, Nat.le_refl _⟩) (retL_of F hr hk) h hw hS hl)
theorem hdX10_mix : yX10_mix.cls ≠ "java/lang/invoke/MethodHandle" ∧ yX10_mix.cls ≠ "java/lang/invoke/VarHandle" ∧ (parseMethodDescriptor yX10_mix.desc).map (fun d => d.parameters.length) = some 2 := by decide +kernel
def wpX6_at (G : GG) (i : Int) (x1 : Int) (μ : MM) (Q : Int → MM → Prop) : Prop := rg x1 ∧ (if x1 < 0 then (Q 0 μ) else (rg (μ 1 1 i) ∧ (if (μ 1 1 i) ≤ x1 then (Q 0 μ) else (if 48 ≤ x1 then (Q 0 μ) else (0 ≤ x1 ∧ (x1 < 48 ∧ (Q (μ 8 0 (48 * i + x1)) μ)))))))
set_option maxRecDepth 100000 in
set_option maxHeartbeats 4000000 in
theorem wX6_at {G : GG} {Q : Int → MM → Prop} {i : Int} {x1 : Int} {μ : MM} {H : Heap} {locs : List Loc} {ls : Array Slot} (F : CallFix p m c cX6_at 2 s args uw RX6) (hA : ∀ q : Nat, s.heap.size ≤ q → A q) (hR : 0 ≤ R.frames ∧ 0 ≤ R.locals) (ret : RetI p l e R s m args below meth c cX6_at Qf (dmC G) (cfC G) tyC (exC G) D cy ad A Q) (h : wpX6_at G i x1 μ Q) (hi_i : 0 ≤ i ∧ i < 8) (hw : wdC G D cy ad A μ s H) (hS : va_S A s.heap H locs) (hl : lv_has ls 2 [(0, .ref (ad 1 i)), (1, .int (iI x1))]) : W p l e R s m args below meth c H locs 0 0 Qf (F0 m 0 ls []) := by
  have hx := F.1
  have hb := F.2.1
  have hown := F.2.2.2.1
  have hts := F.2.2.2.2
  refine lv_iload_n hx hb dX6_at_0 rfl (lv_at hl 1 rfl) ?_
  obtain ⟨g1, h⟩ := h
  refine q_if_lt (tgt := 30) hx hb g1 dX6_at_1 (by decide) (fun c2 => ?_) (fun c2 => ?_)
  · have h := ite_t c2 h
    refine q_iconst hx hb dX6_at_30 ?_
    exact ret _ _ _ _ _ _ h hw hS dX6_at_31
  · have h := ite_f c2 h
    refine lv_iload_n hx hb dX6_at_4 rfl (lv_at hl 1 rfl) ?_
    refine lv_aload_n hx hb dX6_at_5 rfl (lv_at hl 0 rfl) ?_
    refine gC_R_size F hw hi_i tw1_122 dX6_at_6 ?_
    obtain ⟨g3, h⟩ := h
    refine q_icmp_ge (tgt := 30) hx hb g1 g3 dX6_at_9 (by decide) (fun c4 => ?_) (fun c4 => ?_)
    · have h := ite_t c4 h
      refine q_iconst hx hb dX6_at_30 ?_
      exact ret _ _ _ _ _ _ h hw hS dX6_at_31
    · have h := ite_f c4 h
      refine lv_iload_n hx hb dX6_at_12 rfl (lv_at hl 1 rfl) ?_
      refine lv_aload_n hx hb dX6_at_13 rfl (lv_at hl 0 rfl) ?_
      refine gC_R_bytes F hw hi_i tw1_120 dX6_at_14 ?_
      refine aC_8_ln hx hb hw hi_i dX6_at_17 ?_
      refine q_icmp_ge (tgt := 30) hx hb g1 (by decide) dX6_at_18 (by decide) (fun c5 => ?_) (fun c5 => ?_)
      · have h := ite_t c5 h
        refine q_iconst hx hb dX6_at_30 ?_
        exact ret _ _ _ _ _ _ h hw hS dX6_at_31
      · have h := ite_f c5 h
        refine lv_aload_n hx hb dX6_at_21 rfl (lv_at hl 0 rfl) ?_
        refine gC_R_bytes F hw hi_i tw1_120 dX6_at_22 ?_
        refine lv_iload_n hx hb dX6_at_25 rfl (lv_at hl 1 rfl) ?_
        obtain ⟨g6, h⟩ := h
        obtain ⟨g7, h⟩ := h
        refine aC_8_ld hx hb hw hi_i g6 g7 dX6_at_26 ?_
        refine lv_goto (tgt := 31) hx hb dX6_at_27 (by decide) ?_
        exact ret _ _ _ _ _ _ h hw hS dX6_at_31
set_option maxRecDepth 100000 in
set_option maxHeartbeats 4000000 in
theorem kX6_at {l : Launch} {D : va_G} {cy : Nat → ClassId} {ad : AD} {A : Nat → Prop} {G : GG} {i : Int} {x1 : Int} {μ : MM} {Q : Int → MM → Prop} (h : wpX6_at G i x1 μ Q) (hi_i : 0 ≤ i ∧ i < 8) : Met l yX6_at (Cond.code yX6_at cX6_at 2 (some .int) :: uw) (rmm 0 0) (wPc [.ref (ad 1 i), .int (iI x1)] (dmC G) (cfC G) tyC (exC G) D cy ad A μ) (wQ vI Q (dmC G) (cfC G) D cy ad A) 0 0 A :=
  met_of (by decide) (Nat.le_of_ble_eq_true rfl) (fun p e R s m args below meth c ls hr hk hRR F hA hw hS hl => wX6_at F hA (by subst hRR; exact ⟨Nat.le_refl _, Nat.le_refl _⟩) (retI_of F hr hk) h hi_i hw hS hl)
theorem hdX6_at : yX6_at.cls ≠ "java/lang/invoke/MethodHandle" ∧ yX6_at.cls ≠ "java/lang/invoke/VarHandle" ∧ (parseMethodDescriptor yX6_at.desc).map (fun d => d.parameters.length) = some 1 := by decide +kernel
def wpX10_mixRow_L18 (G : GG) (Q : Int → MM → Prop) : Nat → Int → Int → Int → MM → Prop
  | 0, _, _, _, _ => False
  | n + 1, x0, x2, x3, μ => rg x3 ∧ (rg (μ 1 1 x2) ∧ (if (μ 1 1 x2) ≤ x3 then (Q x0 μ) else (wpX6_at G x2 x3 μ (fun v4 μ5 => rg v4 ∧ (wpX10_mix G x0 v4 μ5 (fun v7 μ8 => wpX10_mixRow_L18 G Q n v7 x2 (x3 + 1) μ8))))))
set_option maxRecDepth 100000 in
set_option maxHeartbeats 4000000 in
theorem wX10_mixRow_L18 {G : GG} {Q : Int → MM → Prop} (F : CallFix p m c cX10_mixRow 4 s args uw RX10) (hA : ∀ q : Nat, s.heap.size ≤ q → A q) (hR : 1 ≤ R.frames ∧ 23 ≤ R.locals) (ret : RetL p l e R s m args below meth c cX10_mixRow Qf (dmC G) (cfC G) tyC (exC G) D cy ad A Q) : ∀ (n : Nat) (x0 x2 x3 : Int) (μ : MM) (H : Heap) (locs : List Loc) (ls : Array Slot), wpX10_mixRow_L18 G Q n x0 x2 x3 μ → 0 ≤ x2 ∧ x2 < 8 → wdC G D cy ad A μ s H → va_S A s.heap H locs → lv_has ls 4 [(0, .long (lJ x0)), (2, .ref (ad 1 x2)), (3, .int (iI x3))] → W p l e R s m args below meth c H locs 0 0 Qf (F0 m 18 ls []) := by
  have hx := F.1
  have hb := F.2.1
  have hown := F.2.2.2.1
  have hts := F.2.2.2.2
  intro n
  induction n with
  | zero =>
    intro x0 x2 x3 μ H locs ls h hi_x2 hw hS hl
    exact h.elim
  | succ n ih =>
    intro x0 x2 x3 μ H locs ls h hi_x2 hw hS hl
    refine lv_iload_n hx hb dX10_mixRow_18 rfl (lv_at hl 2 rfl) ?_
    refine lv_aload_n hx hb dX10_mixRow_19 rfl (lv_at hl 1 rfl) ?_
    refine gC_R_size F hw hi_x2 tw1_123 dX10_mixRow_20 ?_
    obtain ⟨g1, h⟩ := h
    obtain ⟨g2, h⟩ := h
    refine q_icmp_ge (tgt := 43) hx hb g1 g2 dX10_mixRow_23 (by decide) (fun c3 => ?_) (fun c3 => ?_)
    · have h := ite_t c3 h
      refine lv_lload_n hx hb dX10_mixRow_43 rfl (lv_at hl 0 rfl) ?_
      exact ret _ _ _ _ _ _ h hw hS dX10_mixRow_44
    · have h := ite_f c3 h
      refine lv_lload_n hx hb dX10_mixRow_26 rfl (lv_at hl 0 rfl) ?_
      refine lv_aload_n hx hb dX10_mixRow_27 rfl (lv_at hl 1 rfl) ?_
      refine lv_iload_n hx hb dX10_mixRow_28 rfl (lv_at hl 2 rfl) ?_
      refine call_V hexC F (kX6_at h hi_x2) 1 tw2_43 tw1_5 tw2_41 tw2_42 tw2_40 hdX6_at ⟨Nat.le_trans (by decide) hR.1, Nat.le_trans (by decide) hR.2⟩ (hw.recv (k := 1) (i := x2) hi_x2 rfl rfl) hA hw hS rfl hl.1 rfl (Nat.le_of_ble_eq_true rfl) dX10_mixRow_29 (fun v4 μ5 H locs h hw hS => ?_)
      obtain ⟨g6, h⟩ := h
      refine q_i2l hx hb g6 dX10_mixRow_32 ?_
      refine call_S hexC F (kX10_mix h) 2 tw5_113 tw1_1 tw5_112 tw5_111 hdX10_mix ⟨Nat.le_trans (by decide) hR.1, Nat.le_trans (by decide) hR.2⟩ hA hw hS rfl hl.1 rfl (Nat.le_of_ble_eq_true rfl) dX10_mixRow_33 (fun v7 μ8 H locs h hw hS => ?_)
      refine lv_lstore_n (lv' := [(0, .long (lJ v7)), (2, .ref (ad 1 x2)), (3, .int (iI x3))]) hx hb dX10_mixRow_36 rfl hl (by decide) rfl (fun ls hl => ?_)
      refine q_iinc (k := 2) (lv' := [(3, .int (iI (x3 + 1))), (0, .long (lJ v7)), (2, .ref (ad 1 x2))]) hx hb dX10_mixRow_37 hl rfl (by decide) rfl (fun ls hl => ?_)
      refine lv_goto (tgt := 18) hx hb dX10_mixRow_40 (by decide) ?_
      exact ih v7 x2 (x3 + 1) _ _ _ _ h hi_x2 hw hS (lv_sub hl [1, 2, 0] rfl)
def wpX10_mixRow (G : GG) (x0 : Int) (x2 : Int) (μ : MM) (Q : Int → MM → Prop) : Prop := if x2 < 0 then (Q x0 μ) else (x2 < 8 ∧ (rg (μ 1 1 x2) ∧ (wpX10_mix G x0 (μ 1 1 x2) μ (fun v5 μ6 => ∃ n7 : Nat, wpX10_mixRow_L18 G Q n7 v5 x2 0 μ6))))
set_option maxRecDepth 100000 in
set_option maxHeartbeats 4000000 in
theorem wX10_mixRow {G : GG} {Q : Int → MM → Prop} {x0 : Int} {x2 : Int} {μ : MM} {H : Heap} {locs : List Loc} {ls : Array Slot} (F : CallFix p m c cX10_mixRow 4 s args uw RX10) (hA : ∀ q : Nat, s.heap.size ≤ q → A q) (hR : 1 ≤ R.frames ∧ 23 ≤ R.locals) (ret : RetL p l e R s m args below meth c cX10_mixRow Qf (dmC G) (cfC G) tyC (exC G) D cy ad A Q) (h : wpX10_mixRow G x0 x2 μ Q) (hw : wdC G D cy ad A μ s H) (hS : va_S A s.heap H locs) (hl : lv_has ls 4 [(0, .long (lJ x0)), (2, rf ad 1 x2)]) : W p l e R s m args below meth c H locs 0 0 Qf (F0 m 0 ls []) := by
  have hx := F.1
  have hb := F.2.1
  have hown := F.2.2.2.1
  have hts := F.2.2.2.2
  refine q_aload_n hx hb dX10_mixRow_0 rfl (lv_at hl 1 rfl) ?_
  refine q_ifnonnull (tgt := 6) hx hb dX10_mixRow_1 (by decide) (fun c1 => ?_) (fun c1 => ?_)
  · have h := ite_t c1 h
    refine lv_lload_n hx hb dX10_mixRow_4 rfl (lv_at hl 0 rfl) ?_
    exact ret _ _ _ _ _ _ h hw hS dX10_mixRow_5
  · have h := ite_f c1 h
    obtain ⟨g2, h⟩ := h
    have hi3 : 0 ≤ x2 ∧ x2 < 8 := ⟨by omega, g2⟩
    have hl : lv_has ls 4 [(0, .long (lJ x0)), (2, .ref (ad 1 x2))] := by rw [← rf_pos (ad := ad) (k := 1) hi3.1]; exact hl
    refine lv_lload_n hx hb dX10_mixRow_6 rfl (lv_at hl 0 rfl) ?_
    refine lv_aload_n hx hb dX10_mixRow_7 rfl (lv_at hl 1 rfl) ?_
    refine gC_R_size F hw hi3 tw1_123 dX10_mixRow_8 ?_
    obtain ⟨g4, h⟩ := h
    refine q_i2l hx hb g4 dX10_mixRow_11 ?_
    refine call_S hexC F (kX10_mix h) 2 tw5_113 tw1_1 tw5_112 tw5_111 hdX10_mix ⟨Nat.le_trans (by decide) hR.1, Nat.le_trans (by decide) hR.2⟩ hA hw hS rfl hl.1 rfl (Nat.le_of_ble_eq_true rfl) dX10_mixRow_12 (fun v5 μ6 H locs h hw hS => ?_)
    refine lv_lstore_n (lv' := [(0, .long (lJ v5)), (2, .ref (ad 1 x2))]) hx hb dX10_mixRow_15 rfl hl (by decide) rfl (fun ls hl => ?_)
    refine q_iconst hx hb dX10_mixRow_16 ?_
    refine lv_istore_n (lv' := [(3, .int (iI 0)), (0, .long (lJ v5)), (2, .ref (ad 1 x2))]) hx hb dX10_mixRow_17 rfl hl (by decide) rfl (fun ls hl => ?_)
    obtain ⟨n7, h⟩ := h
    exact wX10_mixRow_L18 F hA hR ret n7 v5 x2 0 _ _ _ _ h hi3 hw hS (lv_sub hl [1, 2, 0] rfl)
set_option maxRecDepth 100000 in
set_option maxHeartbeats 4000000 in
theorem kX10_mixRow {l : Launch} {D : va_G} {cy : Nat → ClassId} {ad : AD} {A : Nat → Prop} {G : GG} {x0 : Int} {x2 : Int} {μ : MM} {Q : Int → MM → Prop} (h : wpX10_mixRow G x0 x2 μ Q) : Met l yX10_mixRow (Cond.code yX10_mixRow cX10_mixRow 4 (some .long) :: uw) (rmm 1 23) (wPc [.long (lJ x0), rf ad 1 x2] (dmC G) (cfC G) tyC (exC G) D cy ad A μ) (wQ vL Q (dmC G) (cfC G) D cy ad A) 0 0 A :=
  met_of (by decide) (by simp [lg_sl, rf_cat, cat_i, cat_l, cat_r]) (fun p e R s m args below meth c ls hr hk hRR F hA hw hS hl => wX10_mixRow F hA (by subst hRR; exact ⟨Nat.le_refl _, Nat.le_refl _⟩) (retL_of F hr hk) h hw hS (by simpa [lv_args, rf_cat, cat_i, cat_l, cat_r] using hl))
theorem hdX10_mixRow : yX10_mixRow.cls ≠ "java/lang/invoke/MethodHandle" ∧ yX10_mixRow.cls ≠ "java/lang/invoke/VarHandle" ∧ (parseMethodDescriptor yX10_mixRow.desc).map (fun d => d.parameters.length) = some 2 := by decide +kernel
def wpX8_trainIn (G : GG) (i : Int) (x1 : Int) (μ : MM) (Q : Int → MM → Prop) : Prop := rg x1 ∧ (if x1 = 0 then (Q (μ 3 6 i) μ) else (Q (μ 3 7 i) μ))
set_option maxRecDepth 100000 in
set_option maxHeartbeats 4000000 in
theorem wX8_trainIn {G : GG} {Q : Int → MM → Prop} {i : Int} {x1 : Int} {μ : MM} {H : Heap} {locs : List Loc} {ls : Array Slot} (F : CallFix p m c cX8_trainIn 2 s args uw RX8) (hA : ∀ q : Nat, s.heap.size ≤ q → A q) (hR : 0 ≤ R.frames ∧ 0 ≤ R.locals) (ret : RetR 2 p l e R s m args below meth c cX8_trainIn Qf (dmC G) (cfC G) tyC (exC G) D cy ad A Q) (h : wpX8_trainIn G i x1 μ Q) (hi_i : 0 ≤ i ∧ i < 4) (hw : wdC G D cy ad A μ s H) (hS : va_S A s.heap H locs) (hl : lv_has ls 2 [(0, .ref (ad 3 i)), (1, .int (iI x1))]) : W p l e R s m args below meth c H locs 0 0 Qf (F0 m 0 ls []) := by
  have hx := F.1
  have hb := F.2.1
  have hown := F.2.2.2.1
  have hts := F.2.2.2.2
  refine lv_iload_n hx hb dX8_trainIn_0 rfl (lv_at hl 1 rfl) ?_
  obtain ⟨g1, h⟩ := h
  refine q_if_eq (tgt := 11) hx hb g1 dX8_trainIn_1 (by decide) (fun c2 => ?_) (fun c2 => ?_)
  · have h := ite_t c2 h
    refine lv_aload_n hx hb dX8_trainIn_11 rfl (lv_at hl 0 rfl) ?_
    refine gC_W_hourTrain F hw hi_i tw1_174 dX8_trainIn_12 ?_
    exact ret _ _ _ _ _ _ h hw hS dX8_trainIn_15
  · have h := ite_f c2 h
    refine lv_aload_n hx hb dX8_trainIn_4 rfl (lv_at hl 0 rfl) ?_
    refine gC_W_quarterTrain F hw hi_i tw1_175 dX8_trainIn_5 ?_
    refine lv_goto (tgt := 15) hx hb dX8_trainIn_8 (by decide) ?_
    exact ret _ _ _ _ _ _ h hw hS dX8_trainIn_15
set_option maxRecDepth 100000 in
set_option maxHeartbeats 4000000 in
theorem kX8_trainIn {l : Launch} {D : va_G} {cy : Nat → ClassId} {ad : AD} {A : Nat → Prop} {G : GG} {i : Int} {x1 : Int} {μ : MM} {Q : Int → MM → Prop} (h : wpX8_trainIn G i x1 μ Q) (hi_i : 0 ≤ i ∧ i < 4) : Met l yX8_trainIn (Cond.code yX8_trainIn cX8_trainIn 2 (some (.object "HammerTowers$Train")) :: uw) (rmm 0 0) (wPc [.ref (ad 3 i), .int (iI x1)] (dmC G) (cfC G) tyC (exC G) D cy ad A μ) (wQ (vR ad 2) Q (dmC G) (cfC G) D cy ad A) 0 0 A :=
  met_of (by decide) (Nat.le_of_ble_eq_true rfl) (fun p e R s m args below meth c ls hr hk hRR F hA hw hS hl => wX8_trainIn F hA (by subst hRR; exact ⟨Nat.le_refl _, Nat.le_refl _⟩) (retR_of F hr hk) h hi_i hw hS hl)
theorem hdX8_trainIn : yX8_trainIn.cls ≠ "java/lang/invoke/MethodHandle" ∧ yX8_trainIn.cls ≠ "java/lang/invoke/VarHandle" ∧ (parseMethodDescriptor yX8_trainIn.desc).map (fun d => d.parameters.length) = some 1 := by decide +kernel
def wpX8_isWarned (G : GG) (i : Int) (x1 : Int) (μ : MM) (Q : Int → MM → Prop) : Prop := wpX8_trainIn G i x1 μ (fun v1 μ2 => if v1 < 0 then (Q 0 μ2) else (v1 < G 0 0 ∧ (rg (μ2 2 10 v1) ∧ (if (μ2 2 10 v1) = 0 then (Q 0 μ2) else (Q 1 μ2)))))
set_option maxRecDepth 100000 in
set_option maxHeartbeats 4000000 in
theorem wX8_isWarned {G : GG} {Q : Int → MM → Prop} {i : Int} {x1 : Int} {μ : MM} {H : Heap} {locs : List Loc} {ls : Array Slot} (F : CallFix p m c cX8_isWarned 3 s args uw RX8) (hA : ∀ q : Nat, s.heap.size ≤ q → A q) (hR : 1 ≤ R.frames ∧ 21 ≤ R.locals) (ret : RetZ p l e R s m args below meth c cX8_isWarned Qf (dmC G) (cfC G) tyC (exC G) D cy ad A Q) (h : wpX8_isWarned G i x1 μ Q) (hi_i : 0 ≤ i ∧ i < 4) (hw : wdC G D cy ad A μ s H) (hS : va_S A s.heap H locs) (hl : lv_has ls 3 [(0, .ref (ad 3 i)), (1, .int (iI x1))]) : W p l e R s m args below meth c H locs 0 0 Qf (F0 m 0 ls []) := by
  have hx := F.1
  have hb := F.2.1
  have hown := F.2.2.2.1
  have hts := F.2.2.2.2
  refine lv_aload_n hx hb dX8_isWarned_0 rfl (lv_at hl 0 rfl) ?_
  refine lv_iload_n hx hb dX8_isWarned_1 rfl (lv_at hl 1 rfl) ?_
  refine call_V hexC F (kX8_trainIn h hi_i) 1 tw3_111 tw1_6 tw3_109 tw3_110 tw3_108 hdX8_trainIn ⟨Nat.le_trans (by decide) hR.1, Nat.le_trans (by decide) hR.2⟩ (hw.recv (k := 3) (i := i) hi_i rfl rfl) hA hw hS rfl hl.1 rfl (Nat.le_of_ble_eq_true rfl) dX8_isWarned_2 (fun v1 μ2 H locs h hw hS => ?_)
  refine q_astore_n (lv' := [(2, rf ad 2 v1), (0, .ref (ad 3 i)), (1, .int (iI x1))]) hx hb dX8_isWarned_5 rfl hl (by decide) rfl (fun ls hl => ?_)
  refine q_aload_n hx hb dX8_isWarned_6 rfl (lv_at hl 0 rfl) ?_
  refine q_ifnull (tgt := 21) hx hb dX8_isWarned_7 (by decide) (fun c3 => ?_) (fun c3 => ?_)
  · have h := ite_t c3 h
    refine q_iconst hx hb dX8_isWarned_21 ?_
    exact ret _ _ _ _ _ _ (Or.inl rfl) h hw hS dX8_isWarned_22
  · have h := ite_f c3 h
    obtain ⟨g4, h⟩ := h
    have hi5 : 0 ≤ v1 ∧ v1 < G 0 0 := ⟨by omega, g4⟩
    have hl : lv_has ls 3 [(2, .ref (ad 2 v1)), (0, .ref (ad 3 i)), (1, .int (iI x1))] := by rw [← rf_pos (ad := ad) (k := 2) hi5.1]; exact hl
    refine lv_aload_n hx hb dX8_isWarned_10 rfl (lv_at hl 0 rfl) ?_
    refine gC_T_warned F hw hi5 tw2_100 (fun _ h => h) dX8_isWarned_11 ?_
    obtain ⟨g6, h⟩ := h
    refine q_if_eq (tgt := 21) hx hb g6 dX8_isWarned_14 (by decide) (fun c7 => ?_) (fun c7 => ?_)
    · have h := ite_t c7 h
      refine q_iconst hx hb dX8_isWarned_21 ?_
      exact ret _ _ _ _ _ _ (Or.inl rfl) h hw hS dX8_isWarned_22
    · have h := ite_f c7 h
      refine q_iconst hx hb dX8_isWarned_17 ?_
      refine lv_goto (tgt := 22) hx hb dX8_isWarned_18 (by decide) ?_
      exact ret _ _ _ _ _ _ (Or.inr rfl) h hw hS dX8_isWarned_22
set_option maxRecDepth 100000 in
set_option maxHeartbeats 4000000 in
theorem kX8_isWarned {l : Launch} {D : va_G} {cy : Nat → ClassId} {ad : AD} {A : Nat → Prop} {G : GG} {i : Int} {x1 : Int} {μ : MM} {Q : Int → MM → Prop} (h : wpX8_isWarned G i x1 μ Q) (hi_i : 0 ≤ i ∧ i < 4) : Met l yX8_isWarned (Cond.code yX8_isWarned cX8_isWarned 3 (some .boolean) :: uw) (rmm 1 21) (wPc [.ref (ad 3 i), .int (iI x1)] (dmC G) (cfC G) tyC (exC G) D cy ad A μ) (wQ vI (fun v u => (v = 0 ∨ v = 1) ∧ Q v u) (dmC G) (cfC G) D cy ad A) 0 0 A :=
  met_of (by decide) (Nat.le_of_ble_eq_true rfl) (fun p e R s m args below meth c ls hr hk hRR F hA hw hS hl => wX8_isWarned F hA (by subst hRR; exact ⟨Nat.le_refl _, Nat.le_refl _⟩) (retZ2_of F hr hk) h hi_i hw hS hl)
theorem hdX8_isWarned : yX8_isWarned.cls ≠ "java/lang/invoke/MethodHandle" ∧ yX8_isWarned.cls ≠ "java/lang/invoke/VarHandle" ∧ (parseMethodDescriptor yX8_isWarned.desc).map (fun d => d.parameters.length) = some 1 := by decide +kernel
def wpX8_numberIn (G : GG) (i : Int) (x1 : Int) (μ : MM) (Q : Int → MM → Prop) : Prop := wpX8_trainIn G i x1 μ (fun v1 μ2 => if v1 < 0 then (Q (-9) μ2) else (v1 < G 0 0 ∧ (Q v1 μ2)))
set_option maxRecDepth 100000 in
set_option maxHeartbeats 4000000 in
theorem wX8_numberIn {G : GG} {Q : Int → MM → Prop} {i : Int} {x1 : Int} {μ : MM} {H : Heap} {locs : List Loc} {ls : Array Slot} (F : CallFix p m c cX8_numberIn 3 s args uw RX8) (hA : ∀ q : Nat, s.heap.size ≤ q → A q) (hR : 1 ≤ R.frames ∧ 21 ≤ R.locals) (ret : RetI p l e R s m args below meth c cX8_numberIn Qf (dmC G) (cfC G) tyC (exC G) D cy ad A Q) (h : wpX8_numberIn G i x1 μ Q) (hi_i : 0 ≤ i ∧ i < 4) (hw : wdC G D cy ad A μ s H) (hS : va_S A s.heap H locs) (hl : lv_has ls 3 [(0, .ref (ad 3 i)), (1, .int (iI x1))]) : W p l e R s m args below meth c H locs 0 0 Qf (F0 m 0 ls []) := by
  have hx := F.1
  have hb := F.2.1
  have hown := F.2.2.2.1
  have hts := F.2.2.2.2
  refine lv_aload_n hx hb dX8_numberIn_0 rfl (lv_at hl 0 rfl) ?_
  refine lv_iload_n hx hb dX8_numberIn_1 rfl (lv_at hl 1 rfl) ?_
  refine call_V hexC F (kX8_trainIn h hi_i) 1 tw3_111 tw1_6 tw3_109 tw3_110 tw3_108 hdX8_trainIn ⟨Nat.le_trans (by decide) hR.1, Nat.le_trans (by decide) hR.2⟩ (hw.recv (k := 3) (i := i) hi_i rfl rfl) hA hw hS rfl hl.1 rfl (Nat.le_of_ble_eq_true rfl) dX8_numberIn_2 (fun v1 μ2 H locs h hw hS => ?_)
  refine q_astore_n (lv' := [(2, rf ad 2 v1), (0, .ref (ad 3 i)), (1, .int (iI x1))]) hx hb dX8_numberIn_5 rfl hl (by decide) rfl (fun ls hl => ?_)
  refine q_aload_n hx hb dX8_numberIn_6 rfl (lv_at hl 0 rfl) ?_
  refine q_ifnonnull (tgt := 15) hx hb dX8_numberIn_7 (by decide) (fun c3 => ?_) (fun c3 => ?_)
  · have h := ite_t c3 h
    refine q_bipush hx hb (by decide) dX8_numberIn_10 ?_
    refine lv_goto (tgt := 19) hx hb dX8_numberIn_12 (by decide) ?_
    exact ret _ _ _ _ _ _ h hw hS dX8_numberIn_19
  · have h := ite_f c3 h
    obtain ⟨g4, h⟩ := h
    have hi5 : 0 ≤ v1 ∧ v1 < G 0 0 := ⟨by omega, g4⟩
    have hl : lv_has ls 3 [(2, .ref (ad 2 v1)), (0, .ref (ad 3 i)), (1, .int (iI x1))] := by rw [← rf_pos (ad := ad) (k := 2) hi5.1]; exact hl
    refine lv_aload_n hx hb dX8_numberIn_15 rfl (lv_at hl 0 rfl) ?_
    refine gC_T_number F hw hi5 tw2_70 (fun _ h => h) dX8_numberIn_16 ?_
    exact ret _ _ _ _ _ _ h hw hS dX8_numberIn_19
set_option maxRecDepth 100000 in
set_option maxHeartbeats 4000000 in
theorem kX8_numberIn {l : Launch} {D : va_G} {cy : Nat → ClassId} {ad : AD} {A : Nat → Prop} {G : GG} {i : Int} {x1 : Int} {μ : MM} {Q : Int → MM → Prop} (h : wpX8_numberIn G i x1 μ Q) (hi_i : 0 ≤ i ∧ i < 4) : Met l yX8_numberIn (Cond.code yX8_numberIn cX8_numberIn 3 (some .int) :: uw) (rmm 1 21) (wPc [.ref (ad 3 i), .int (iI x1)] (dmC G) (cfC G) tyC (exC G) D cy ad A μ) (wQ vI Q (dmC G) (cfC G) D cy ad A) 0 0 A :=
  met_of (by decide) (Nat.le_of_ble_eq_true rfl) (fun p e R s m args below meth c ls hr hk hRR F hA hw hS hl => wX8_numberIn F hA (by subst hRR; exact ⟨Nat.le_refl _, Nat.le_refl _⟩) (retI_of F hr hk) h hi_i hw hS hl)
theorem hdX8_numberIn : yX8_numberIn.cls ≠ "java/lang/invoke/MethodHandle" ∧ yX8_numberIn.cls ≠ "java/lang/invoke/VarHandle" ∧ (parseMethodDescriptor yX8_numberIn.desc).map (fun d => d.parameters.length) = some 1 := by decide +kernel
def wpX8_silenceNow (G : GG) (i : Int) (μ : MM) (Q : Int → MM → Prop) : Prop := rg (μ 3 1 i) ∧ (wpJ9_floorMod_7cf53 G ((Int.tdiv (μ 3 1 i) 60) - (μ 3 8 i)) 24 μ (fun v2 μ3 => wpJ9_floorMod_7cf53 G ((μ3 3 9 i) - (μ3 3 8 i)) 24 μ3 (fun v4 μ5 => rg v2 ∧ (rg v4 ∧ (if v4 ≤ v2 then (Q 0 μ5) else (Q (μ5 3 10 i) μ5))))))
set_option maxRecDepth 100000 in
set_option maxHeartbeats 4000000 in
theorem wX8_silenceNow {G : GG} {Q : Int → MM → Prop} {i : Int} {μ : MM} {H : Heap} {locs : List Loc} {ls : Array Slot} (F : CallFix p m c cX8_silenceNow 3 s args uw RX8) (hA : ∀ q : Nat, s.heap.size ≤ q → A q) (hR : 1 ≤ R.frames ∧ 22 ≤ R.locals) (ret : RetI p l e R s m args below meth c cX8_silenceNow Qf (dmC G) (cfC G) tyC (exC G) D cy ad A Q) (h : wpX8_silenceNow G i μ Q) (hi_i : 0 ≤ i ∧ i < 4) (hw : wdC G D cy ad A μ s H) (hS : va_S A s.heap H locs) (hl : lv_has ls 3 [(0, .ref (ad 3 i))]) : W p l e R s m args below meth c H locs 0 0 Qf (F0 m 0 ls []) := by
  have hx := F.1
  have hb := F.2.1
  have hown := F.2.2.2.1
  have hts := F.2.2.2.2
  refine lv_aload_n hx hb dX8_silenceNow_0 rfl (lv_at hl 0 rfl) ?_
  refine gC_W_hands F hw hi_i tw1_164 dX8_silenceNow_1 ?_
  refine q_bipush hx hb (by decide) dX8_silenceNow_4 ?_
  obtain ⟨g1, h⟩ := h
  refine q_idiv hx hb g1 (by decide) (by decide) dX8_silenceNow_6 ?_
  refine lv_aload_n hx hb dX8_silenceNow_7 rfl (lv_at hl 0 rfl) ?_
  refine gC_W_silentFrom F hw hi_i tw1_176 dX8_silenceNow_8 ?_
  refine q_isub hx hb dX8_silenceNow_11 ?_
  refine q_bipush hx hb (by decide) dX8_silenceNow_12 ?_
  refine call_S hexC F (kJ9_floorMod_7cf53 h) 2 tw3_165 tw1_13 tw3_164 tw3_163 hdJ9_floorMod_7cf53 ⟨Nat.le_trans (by decide) hR.1, Nat.le_trans (by decide) hR.2⟩ hA hw hS rfl hl.1 rfl (Nat.le_of_ble_eq_true rfl) dX8_silenceNow_14 (fun v2 μ3 H locs h hw hS => ?_)
  refine lv_istore_n (lv' := [(1, .int (iI v2)), (0, .ref (ad 3 i))]) hx hb dX8_silenceNow_17 rfl hl (by decide) rfl (fun ls hl => ?_)
  refine lv_aload_n hx hb dX8_silenceNow_18 rfl (lv_at hl 1 rfl) ?_
  refine gC_W_silentTo F hw hi_i tw1_177 dX8_silenceNow_19 ?_
  refine lv_aload_n hx hb dX8_silenceNow_22 rfl (lv_at hl 1 rfl) ?_
  refine gC_W_silentFrom F hw hi_i tw1_176 dX8_silenceNow_23 ?_
  refine q_isub hx hb dX8_silenceNow_26 ?_
  refine q_bipush hx hb (by decide) dX8_silenceNow_27 ?_
  refine call_S hexC F (kJ9_floorMod_7cf53 h) 2 tw3_165 tw1_13 tw3_164 tw3_163 hdJ9_floorMod_7cf53 ⟨Nat.le_trans (by decide) hR.1, Nat.le_trans (by decide) hR.2⟩ hA hw hS rfl hl.1 rfl (Nat.le_of_ble_eq_true rfl) dX8_silenceNow_29 (fun v4 μ5 H locs h hw hS => ?_)
  refine lv_istore_n (lv' := [(2, .int (iI v4)), (1, .int (iI v2)), (0, .ref (ad 3 i))]) hx hb dX8_silenceNow_32 rfl hl (by decide) rfl (fun ls hl => ?_)
  refine lv_iload_n hx hb dX8_silenceNow_33 rfl (lv_at hl 1 rfl) ?_
  refine lv_iload_n hx hb dX8_silenceNow_34 rfl (lv_at hl 0 rfl) ?_
  obtain ⟨g6, h⟩ := h
  obtain ⟨g7, h⟩ := h
  refine q_icmp_ge (tgt := 45) hx hb g6 g7 dX8_silenceNow_35 (by decide) (fun c8 => ?_) (fun c8 => ?_)
  · have h := ite_t c8 h
    refine q_iconst hx hb dX8_silenceNow_45 ?_
    exact ret _ _ _ _ _ _ h hw hS dX8_silenceNow_46
  · have h := ite_f c8 h
    refine lv_aload_n hx hb dX8_silenceNow_38 rfl (lv_at hl 2 rfl) ?_
    refine gC_W_silentSort F hw hi_i tw1_178 dX8_silenceNow_39 ?_
    refine lv_goto (tgt := 46) hx hb dX8_silenceNow_42 (by decide) ?_
    exact ret _ _ _ _ _ _ h hw hS dX8_silenceNow_46
set_option maxRecDepth 100000 in
set_option maxHeartbeats 4000000 in
theorem kX8_silenceNow {l : Launch} {D : va_G} {cy : Nat → ClassId} {ad : AD} {A : Nat → Prop} {G : GG} {i : Int} {μ : MM} {Q : Int → MM → Prop} (h : wpX8_silenceNow G i μ Q) (hi_i : 0 ≤ i ∧ i < 4) : Met l yX8_silenceNow (Cond.code yX8_silenceNow cX8_silenceNow 3 (some .int) :: uw) (rmm 1 22) (wPc [.ref (ad 3 i)] (dmC G) (cfC G) tyC (exC G) D cy ad A μ) (wQ vI Q (dmC G) (cfC G) D cy ad A) 0 0 A :=
  met_of (by decide) (Nat.le_of_ble_eq_true rfl) (fun p e R s m args below meth c ls hr hk hRR F hA hw hS hl => wX8_silenceNow F hA (by subst hRR; exact ⟨Nat.le_refl _, Nat.le_refl _⟩) (retI_of F hr hk) h hi_i hw hS hl)
theorem hdX8_silenceNow : yX8_silenceNow.cls ≠ "java/lang/invoke/MethodHandle" ∧ yX8_silenceNow.cls ≠ "java/lang/invoke/VarHandle" ∧ (parseMethodDescriptor yX8_silenceNow.desc).map (fun d => d.parameters.length) = some 0 := by decide +kernel
def wpX10_tells (G : GG) (x1 : Int) (x2 : Int) (μ : MM) (Q : Int → MM → Prop) : Prop := wpX10_towerOf G x1 μ (fun v1 μ2 => if v1 < 0 then (Q (-1) μ2) else (v1 < 4 ∧ (rg x2 ∧ (if x2 < 0 then (Q (-1) μ2) else (if x2 ≤ 8 then (rg (μ2 3 0 v1) ∧ (if (μ2 3 0 v1) = 0 then (wpX10_found G 1 μ2 (fun v35 μ36 => Q v35 μ36)) else (if x2 = 0 then (Q (μ2 3 1 v1) μ2) else (if x2 = 1 then (Q (μ2 3 3 v1) μ2) else (if x2 = 2 then (Q (μ2 3 4 v1) μ2) else (if x2 = 3 then (rg (μ2 3 5 v1) ∧ (if (μ2 3 5 v1) = 0 then (Q 0 μ2) else (Q 1 μ2))) else (if x2 = 4 then (wpX8_numberIn G v1 0 μ2 (fun v18 μ19 => Q v18 μ19)) else (if x2 = 5 then (wpX8_numberIn G v1 1 μ2 (fun v21 μ22 => Q v21 μ22)) else (if x2 = 6 then (wpX8_isWarned G v1 0 μ2 (fun v24 μ25 => if v24 = 0 then (Q 0 μ25) else (Q 1 μ25))) else (if x2 = 7 then (wpX8_isWarned G v1 1 μ2 (fun v29 μ30 => if v29 = 0 then (Q 0 μ30) else (Q 1 μ30))) else (wpX8_silenceNow G v1 μ2 (fun v33 μ34 => Q v33 μ34)))))))))))) else (Q (-1) μ2))))))
set_option maxRecDepth 100000 in
set_option maxHeartbeats 4000000 in
theorem wX10_tells {G : GG} {Q : Int → MM → Prop} {x1 : Int} {x2 : Int} {μ : MM} {H : Heap} {locs : List Loc} {ls : Array Slot} (F : CallFix p m c cX10_tells 4 s args uw RX10) (hA : ∀ q : Nat, s.heap.size ≤ q → A q) (hR : 2 ≤ R.frames ∧ 44 ≤ R.locals) (ret : RetI p l e R s m args below meth c cX10_tells Qf (dmC G) (cfC G) tyC (exC G) D cy ad A Q) (h : wpX10_tells G x1 x2 μ Q) (hw : wdC G D cy ad A μ s H) (hS : va_S A s.heap H locs) (hl : lv_has ls 4 [(0, .ref (ad 0 0)), (1, .int (iI x1)), (2, .int (iI x2))]) : W p l e R s m args below meth c H locs 0 0 Qf (F0 m 0 ls []) := by
  have hx := F.1
  have hb := F.2.1
  have hown := F.2.2.2.1
  have hts := F.2.2.2.2
  refine lv_aload_n hx hb dX10_tells_0 rfl (lv_at hl 0 rfl) ?_
  refine lv_iload_n hx hb dX10_tells_1 rfl (lv_at hl 1 rfl) ?_
  refine call_V hexC F (kX10_towerOf h) 1 tw3_99 tw1_1 tw3_98 tws1_5 tw3_96 hdX10_towerOf ⟨Nat.le_trans (by decide) hR.1, Nat.le_trans (by decide) hR.2⟩ (hw.recv (k := 0) (i := 0) rfl rfl rfl) hA hw hS rfl hl.1 rfl (Nat.le_of_ble_eq_true rfl) dX10_tells_2 (fun v1 μ2 H locs h hw hS => ?_)
  refine q_astore_n (lv' := [(3, rf ad 3 v1), (0, .ref (ad 0 0)), (1, .int (iI x1)), (2, .int (iI x2))]) hx hb dX10_tells_5 rfl hl (by decide) rfl (fun ls hl => ?_)
  refine q_aload_n hx hb dX10_tells_6 rfl (lv_at hl 0 rfl) ?_
  refine q_ifnull (tgt := 20) hx hb dX10_tells_7 (by decide) (fun c3 => ?_) (fun c3 => ?_)
  · have h := ite_t c3 h
    refine q_iconst hx hb dX10_tells_20 ?_
    exact ret _ _ _ _ _ _ h hw hS dX10_tells_21
  · have h := ite_f c3 h
    obtain ⟨g4, h⟩ := h
    have hi5 : 0 ≤ v1 ∧ v1 < 4 := ⟨by omega, g4⟩
    have hl : lv_has ls 4 [(3, .ref (ad 3 v1)), (0, .ref (ad 0 0)), (1, .int (iI x1)), (2, .int (iI x2))] := by rw [← rf_pos (ad := ad) (k := 3) hi5.1]; exact hl
    refine lv_iload_n hx hb dX10_tells_10 rfl (lv_at hl 3 rfl) ?_
    obtain ⟨g6, h⟩ := h
    refine q_if_lt (tgt := 20) hx hb g6 dX10_tells_11 (by decide) (fun c7 => ?_) (fun c7 => ?_)
    · have h := ite_t c7 h
      refine q_iconst hx hb dX10_tells_20 ?_
      exact ret _ _ _ _ _ _ h hw hS dX10_tells_21
    · have h := ite_f c7 h
      refine lv_iload_n hx hb dX10_tells_14 rfl (lv_at hl 3 rfl) ?_
      refine q_bipush hx hb (by decide) dX10_tells_15 ?_
      refine q_icmp_le (tgt := 22) hx hb g6 (by decide) dX10_tells_17 (by decide) (fun c8 => ?_) (fun c8 => ?_)
      · have h := ite_t c8 h
        refine lv_aload_n hx hb dX10_tells_22 rfl (lv_at hl 0 rfl) ?_
        refine gC_W_there F hw hi5 tw1_163 dX10_tells_23 ?_
        obtain ⟨g9, h⟩ := h
        refine q_if_ne (tgt := 35) hx hb g9 dX10_tells_26 (by decide) (fun c10 => ?_) (fun c10 => ?_)
        · have h := ite_f c10 h
          refine lv_iload_n hx hb dX10_tells_35 rfl (lv_at hl 3 rfl) ?_
          by_cases c11 : x2 = 0
          · have h := ite_t c11 h
            refine q_tswIn (tgt := 84) hx hb g6 dX10_tells_36 0 (by rw [c11]; decide) (by decide) rfl (by decide) ?_
            refine lv_aload_n hx hb dX10_tells_84 rfl (lv_at hl 0 rfl) ?_
            refine gC_W_hands F hw hi5 tw1_165 dX10_tells_85 ?_
            exact ret _ _ _ _ _ _ h hw hS dX10_tells_88
          · have h := ite_f c11 h
            by_cases c12 : x2 = 1
            · have h := ite_t c12 h
              refine q_tswIn (tgt := 89) hx hb g6 dX10_tells_36 1 (by rw [c12]; decide) (by decide) rfl (by decide) ?_
              refine lv_aload_n hx hb dX10_tells_89 rfl (lv_at hl 0 rfl) ?_
              refine gC_W_sum F hw hi5 tw1_169 dX10_tells_90 ?_
              exact ret _ _ _ _ _ _ h hw hS dX10_tells_93
            · have h := ite_f c12 h
              by_cases c13 : x2 = 2
              · have h := ite_t c13 h
                refine q_tswIn (tgt := 94) hx hb g6 dX10_tells_36 2 (by rw [c13]; decide) (by decide) rfl (by decide) ?_
                refine lv_aload_n hx hb dX10_tells_94 rfl (lv_at hl 0 rfl) ?_
                refine gC_W_going F hw hi5 tw1_171 dX10_tells_95 ?_
                exact ret _ _ _ _ _ _ h hw hS dX10_tells_98
              · have h := ite_f c13 h
                by_cases c14 : x2 = 3
                · have h := ite_t c14 h
                  refine q_tswIn (tgt := 99) hx hb g6 dX10_tells_36 3 (by rw [c14]; decide) (by decide) rfl (by decide) ?_
                  refine lv_aload_n hx hb dX10_tells_99 rfl (lv_at hl 0 rfl) ?_
                  refine gC_W_goes F hw hi5 tw1_173 dX10_tells_100 ?_
                  obtain ⟨g15, h⟩ := h
                  refine q_if_eq (tgt := 110) hx hb g15 dX10_tells_103 (by decide) (fun c16 => ?_) (fun c16 => ?_)
                  · have h := ite_t c16 h
                    refine q_iconst hx hb dX10_tells_110 ?_
                    exact ret _ _ _ _ _ _ h hw hS dX10_tells_111
                  · have h := ite_f c16 h
                    refine q_iconst hx hb dX10_tells_106 ?_
                    refine lv_goto (tgt := 111) hx hb dX10_tells_107 (by decide) ?_
                    exact ret _ _ _ _ _ _ h hw hS dX10_tells_111
                · have h := ite_f c14 h
                  by_cases c17 : x2 = 4
                  · have h := ite_t c17 h
                    refine q_tswIn (tgt := 112) hx hb g6 dX10_tells_36 4 (by rw [c17]; decide) (by decide) rfl (by decide) ?_
                    refine lv_aload_n hx hb dX10_tells_112 rfl (lv_at hl 0 rfl) ?_
                    refine q_iconst hx hb dX10_tells_113 ?_
                    refine call_V hexC F (kX8_numberIn h hi5) 1 tw4_42 tw1_6 tw4_40 tw4_41 tw4_39 hdX8_numberIn ⟨Nat.le_trans (by decide) hR.1, Nat.le_trans (by decide) hR.2⟩ (hw.recv (k := 3) (i := v1) hi5 rfl rfl) hA hw hS rfl hl.1 rfl (Nat.le_of_ble_eq_true rfl) dX10_tells_114 (fun v18 μ19 H locs h hw hS => ?_)
                    exact ret _ _ _ _ _ _ h hw hS dX10_tells_117
                  · have h := ite_f c17 h
                    by_cases c20 : x2 = 5
                    · have h := ite_t c20 h
                      refine q_tswIn (tgt := 118) hx hb g6 dX10_tells_36 5 (by rw [c20]; decide) (by decide) rfl (by decide) ?_
                      refine lv_aload_n hx hb dX10_tells_118 rfl (lv_at hl 0 rfl) ?_
                      refine q_iconst hx hb dX10_tells_119 ?_
                      refine call_V hexC F (kX8_numberIn h hi5) 1 tw4_42 tw1_6 tw4_40 tw4_41 tw4_39 hdX8_numberIn ⟨Nat.le_trans (by decide) hR.1, Nat.le_trans (by decide) hR.2⟩ (hw.recv (k := 3) (i := v1) hi5 rfl rfl) hA hw hS rfl hl.1 rfl (Nat.le_of_ble_eq_true rfl) dX10_tells_120 (fun v21 μ22 H locs h hw hS => ?_)
                      exact ret _ _ _ _ _ _ h hw hS dX10_tells_123
                    · have h := ite_f c20 h
                      by_cases c23 : x2 = 6
                      · have h := ite_t c23 h
                        refine q_tswIn (tgt := 124) hx hb g6 dX10_tells_36 6 (by rw [c23]; decide) (by decide) rfl (by decide) ?_
                        refine lv_aload_n hx hb dX10_tells_124 rfl (lv_at hl 0 rfl) ?_
                        refine q_iconst hx hb dX10_tells_125 ?_
                        refine call_V hexC F (kX8_isWarned h hi5) 1 tw4_46 tw1_6 tw4_44 tw4_45 tw4_43 hdX8_isWarned ⟨Nat.le_trans (by decide) hR.1, Nat.le_trans (by decide) hR.2⟩ (hw.recv (k := 3) (i := v1) hi5 rfl rfl) hA hw hS rfl hl.1 rfl (Nat.le_of_ble_eq_true rfl) dX10_tells_126 (fun v24 μ25 H locs h hw hS => ?_)
                        obtain ⟨z26, h⟩ := h
                        refine q_if_eq (tgt := 136) hx hb (rgB z26) dX10_tells_129 (by decide) (fun c27 => ?_) (fun c27 => ?_)
                        · have h := ite_t c27 h
                          refine q_iconst hx hb dX10_tells_136 ?_
                          exact ret _ _ _ _ _ _ h hw hS dX10_tells_137
                        · have h := ite_f c27 h
                          refine q_iconst hx hb dX10_tells_132 ?_
                          refine lv_goto (tgt := 137) hx hb dX10_tells_133 (by decide) ?_
                          exact ret _ _ _ _ _ _ h hw hS dX10_tells_137
                      · have h := ite_f c23 h
                        by_cases c28 : x2 = 7
                        · have h := ite_t c28 h
                          refine q_tswIn (tgt := 138) hx hb g6 dX10_tells_36 7 (by rw [c28]; decide) (by decide) rfl (by decide) ?_
                          refine lv_aload_n hx hb dX10_tells_138 rfl (lv_at hl 0 rfl) ?_
                          refine q_iconst hx hb dX10_tells_139 ?_
                          refine call_V hexC F (kX8_isWarned h hi5) 1 tw4_46 tw1_6 tw4_44 tw4_45 tw4_43 hdX8_isWarned ⟨Nat.le_trans (by decide) hR.1, Nat.le_trans (by decide) hR.2⟩ (hw.recv (k := 3) (i := v1) hi5 rfl rfl) hA hw hS rfl hl.1 rfl (Nat.le_of_ble_eq_true rfl) dX10_tells_140 (fun v29 μ30 H locs h hw hS => ?_)
                          obtain ⟨z31, h⟩ := h
                          refine q_if_eq (tgt := 150) hx hb (rgB z31) dX10_tells_143 (by decide) (fun c32 => ?_) (fun c32 => ?_)
                          · have h := ite_t c32 h
                            refine q_iconst hx hb dX10_tells_150 ?_
                            exact ret _ _ _ _ _ _ h hw hS dX10_tells_151
                          · have h := ite_f c32 h
                            refine q_iconst hx hb dX10_tells_146 ?_
                            refine lv_goto (tgt := 151) hx hb dX10_tells_147 (by decide) ?_
                            exact ret _ _ _ _ _ _ h hw hS dX10_tells_151
                        · have h := ite_f c28 h
                          refine q_tswOut (tgt := 152) hx hb g6 dX10_tells_36 (by omega) (by decide) ?_
                          refine lv_aload_n hx hb dX10_tells_152 rfl (lv_at hl 0 rfl) ?_
                          refine call_V hexC F (kX8_silenceNow h hi5) 0 tw3_162 tw1_6 tw3_160 tw3_161 tw4_47 hdX8_silenceNow ⟨Nat.le_trans (by decide) hR.1, Nat.le_trans (by decide) hR.2⟩ (hw.recv (k := 3) (i := v1) hi5 rfl rfl) hA hw hS rfl hl.1 rfl (Nat.le_of_ble_eq_true rfl) dX10_tells_153 (fun v33 μ34 H locs h hw hS => ?_)
                          exact ret _ _ _ _ _ _ h hw hS dX10_tells_156
        · have h := ite_t c10 h
          refine lv_aload_n hx hb dX10_tells_29 rfl (lv_at hl 1 rfl) ?_
          refine q_iconst hx hb dX10_tells_30 ?_
          refine call_V hexC F (kX10_found h) 1 tw2_20 tw1_1 tw2_19 tws1_1 tw2_17 hdX10_found ⟨Nat.le_trans (by decide) hR.1, Nat.le_trans (by decide) hR.2⟩ (hw.recv (k := 0) (i := 0) rfl rfl rfl) hA hw hS rfl hl.1 rfl (Nat.le_of_ble_eq_true rfl) dX10_tells_31 (fun v35 μ36 H locs h hw hS => ?_)
          exact ret _ _ _ _ _ _ h hw hS dX10_tells_34
      · have h := ite_f c8 h
        refine q_iconst hx hb dX10_tells_20 ?_
        exact ret _ _ _ _ _ _ h hw hS dX10_tells_21
set_option maxRecDepth 100000 in
set_option maxHeartbeats 4000000 in
theorem kX10_tells {l : Launch} {D : va_G} {cy : Nat → ClassId} {ad : AD} {A : Nat → Prop} {G : GG} {x1 : Int} {x2 : Int} {μ : MM} {Q : Int → MM → Prop} (h : wpX10_tells G x1 x2 μ Q) : Met l yX10_tells (Cond.code yX10_tells cX10_tells 4 (some .int) :: uw) (rmm 2 44) (wPc [.ref (ad 0 0), .int (iI x1), .int (iI x2)] (dmC G) (cfC G) tyC (exC G) D cy ad A μ) (wQ vI Q (dmC G) (cfC G) D cy ad A) 0 0 A :=
  met_of (by decide) (Nat.le_of_ble_eq_true rfl) (fun p e R s m args below meth c ls hr hk hRR F hA hw hS hl => wX10_tells F hA (by subst hRR; exact ⟨Nat.le_refl _, Nat.le_refl _⟩) (retI_of F hr hk) h hw hS hl)
theorem hdX10_tells : yX10_tells.cls ≠ "java/lang/invoke/MethodHandle" ∧ yX10_tells.cls ≠ "java/lang/invoke/VarHandle" ∧ (parseMethodDescriptor yX10_tells.desc).map (fun d => d.parameters.length) = some 2 := by decide +kernel
end
