section
variable {p : Program} {l : Launch} {e : Env} {R : Room} {s : State} {m : MethodId} {args : Array Value} {below : List Frame} {meth : Method} {c : Code} {Qf : State → Prop} {D : va_G} {cy : Nat → ClassId} {ad : AD} {A : Nat → Prop}
def wpX8_nextPlace (G : GG) (i : Int) (x1 : Int) (μ : MM) (Q : Int → MM → Prop) : Prop := rg x1 ∧ (if x1 = 0 then (rg (μ 3 1 i) ∧ (rg (Int.tdiv (μ 3 1 i) 60) ∧ (Q (Int.tmod (Int.tdiv (μ 3 1 i) 60) 12) μ))) else (rg (μ 3 1 i) ∧ (rg (Int.tmod (μ 3 1 i) 60) ∧ (Q (Int.tdiv (Int.tmod (μ 3 1 i) 60) 15) μ))))
set_option maxRecDepth 100000 in
set_option maxHeartbeats 4000000 in
theorem wX8_nextPlace {G : GG} {Q : Int → MM → Prop} {i : Int} {x1 : Int} {μ : MM} {H : Heap} {locs : List Loc} {ls : Array Slot} (F : CallFix p m c cX8_nextPlace 2 s args uw RX8) (hA : ∀ q : Nat, s.heap.size ≤ q → A q) (hR : 0 ≤ R.frames ∧ 0 ≤ R.locals) (ret : RetI p l e R s m args below meth c cX8_nextPlace Qf (dmC G) (cfC G) tyC (exC G) D cy ad A Q) (h : wpX8_nextPlace G i x1 μ Q) (hi_i : 0 ≤ i ∧ i < 4) (hw : wdC G D cy ad A μ s H) (hS : va_S A s.heap H locs) (hl : lv_has ls 2 [(0, .ref (ad 3 i)), (1, .int (iI x1))]) : W p l e R s m args below meth c H locs 0 0 Qf (F0 m 0 ls []) := by
  have hx := F.1
  have hb := F.2.1
  have hown := F.2.2.2.1
  have hts := F.2.2.2.2
  refine lv_iload_n hx hb dX8_nextPlace_0 rfl (lv_at hl 1 rfl) ?_
  obtain ⟨g1, h⟩ := h
  refine q_if_eq (tgt := 17) hx hb g1 dX8_nextPlace_1 (by decide) (fun c2 => ?_) (fun c2 => ?_)
  · have h := ite_t c2 h
    refine lv_aload_n hx hb dX8_nextPlace_17 rfl (lv_at hl 0 rfl) ?_
    refine gC_W_hands F hw hi_i tw1_164 dX8_nextPlace_18 ?_
    refine q_bipush hx hb (by decide) dX8_nextPlace_21 ?_
    obtain ⟨g3, h⟩ := h
    refine q_idiv hx hb g3 (by decide) (by decide) dX8_nextPlace_23 ?_
    refine q_bipush hx hb (by decide) dX8_nextPlace_24 ?_
    obtain ⟨g4, h⟩ := h
    refine q_irem hx hb g4 (by decide) (by decide) dX8_nextPlace_26 ?_
    exact ret _ _ _ _ _ _ h hw hS dX8_nextPlace_27
  · have h := ite_f c2 h
    refine lv_aload_n hx hb dX8_nextPlace_4 rfl (lv_at hl 0 rfl) ?_
    refine gC_W_hands F hw hi_i tw1_164 dX8_nextPlace_5 ?_
    refine q_bipush hx hb (by decide) dX8_nextPlace_8 ?_
    obtain ⟨g5, h⟩ := h
    refine q_irem hx hb g5 (by decide) (by decide) dX8_nextPlace_10 ?_
    refine q_bipush hx hb (by decide) dX8_nextPlace_11 ?_
    obtain ⟨g6, h⟩ := h
    refine q_idiv hx hb g6 (by decide) (by decide) dX8_nextPlace_13 ?_
    refine lv_goto (tgt := 27) hx hb dX8_nextPlace_14 (by decide) ?_
    exact ret _ _ _ _ _ _ h hw hS dX8_nextPlace_27
set_option maxRecDepth 100000 in
set_option maxHeartbeats 4000000 in
theorem kX8_nextPlace {l : Launch} {D : va_G} {cy : Nat → ClassId} {ad : AD} {A : Nat → Prop} {G : GG} {i : Int} {x1 : Int} {μ : MM} {Q : Int → MM → Prop} (h : wpX8_nextPlace G i x1 μ Q) (hi_i : 0 ≤ i ∧ i < 4) : Met l yX8_nextPlace (Cond.code yX8_nextPlace cX8_nextPlace 2 (some .int) :: uw) (rmm 0 0) (wPc [.ref (ad 3 i), .int (iI x1)] (dmC G) (cfC G) tyC (exC G) D cy ad A μ) (wQ vI Q (dmC G) (cfC G) D cy ad A) 0 0 A :=
  met_of (by decide) (Nat.le_of_ble_eq_true rfl) (fun p e R s m args below meth c ls hr hk hRR F hA hw hS hl => wX8_nextPlace F hA (by subst hRR; exact ⟨Nat.le_refl _, Nat.le_refl _⟩) (retI_of F hr hk) h hi_i hw hS hl)
theorem hdX8_nextPlace : yX8_nextPlace.cls ≠ "java/lang/invoke/MethodHandle" ∧ yX8_nextPlace.cls ≠ "java/lang/invoke/VarHandle" ∧ (parseMethodDescriptor yX8_nextPlace.desc).map (fun d => d.parameters.length) = some 1 := by decide +kernel
def wpX9_letGo (G : GG) (i : Int) (x1 : Int) (x2 : Int) (μ : MM) (Q : Int → MM → Prop) : Prop := ∀ μ1 : MM, μ1 = ms μ 2 7 i ((μ 2 7 i) + 1) → ((x2 = 0 ∨ x2 = 1) ∧ (∀ μ3 : MM, μ3 = ms μ1 2 11 i x2 → (Q 0 μ3)))
set_option maxRecDepth 100000 in
set_option maxHeartbeats 4000000 in
theorem wX9_letGo {G : GG} {Q : Int → MM → Prop} {i : Int} {x1 : Int} {x2 : Int} {μ : MM} {H : Heap} {locs : List Loc} {ls : Array Slot} (F : CallFix p m c cX9_letGo 3 s args uw RX9) (hA : ∀ q : Nat, s.heap.size ≤ q → A q) (hR : 0 ≤ R.frames ∧ 0 ≤ R.locals) (ret : RetV p l e R s m args below meth c cX9_letGo Qf (dmC G) (cfC G) tyC (exC G) D cy ad A Q) (h : wpX9_letGo G i x1 x2 μ Q) (hi_i : 0 ≤ i ∧ i < G 0 0) (hw : wdC G D cy ad A μ s H) (hS : va_S A s.heap H locs) (hl : lv_has ls 3 [(0, .ref (ad 2 i)), (1, .int (iI x1)), (2, .int (iI x2))]) : W p l e R s m args below meth c H locs 0 0 Qf (F0 m 0 ls []) := by
  have hx := F.1
  have hb := F.2.1
  have hown := F.2.2.2.1
  have hts := F.2.2.2.2
  refine lv_aload_n hx hb dX9_letGo_0 rfl (lv_at hl 0 rfl) ?_
  refine lv_dup hx hb dX9_letGo_1 rfl ?_
  refine gC_T_due F hw hi_i tw2_90 (fun _ h => h) dX9_letGo_2 ?_
  refine q_iconst hx hb dX9_letGo_5 ?_
  refine q_iadd hx hb dX9_letGo_6 ?_
  obtain ⟨μ1, eμ1⟩ : ∃ z : MM, z = ms μ 2 7 i ((μ 2 7 i) + 1) := ⟨_, rfl⟩
  have h := h μ1 eμ1
  refine pC_T_due F hw hS hi_i tw2_90 (fun _ h => h) eμ1 dX9_letGo_7 (fun H locs hw hS => ?_)
  refine lv_aload_n hx hb dX9_letGo_10 rfl (lv_at hl 0 rfl) ?_
  refine lv_iload_n hx hb dX9_letGo_11 rfl (lv_at hl 2 rfl) ?_
  obtain ⟨g2, h⟩ := h
  obtain ⟨μ3, eμ3⟩ : ∃ z : MM, z = ms μ1 2 11 i x2 := ⟨_, rfl⟩
  have h := h μ3 eμ3
  refine pC_T_lifts F hw hS hi_i tw2_104 (fun _ h => h) g2 eμ3 dX9_letGo_12 (fun H locs hw hS => ?_)
  exact ret _ _ _ _ _ h hw hS dX9_letGo_15
set_option maxRecDepth 100000 in
set_option maxHeartbeats 4000000 in
theorem kX9_letGo {l : Launch} {D : va_G} {cy : Nat → ClassId} {ad : AD} {A : Nat → Prop} {G : GG} {i : Int} {x1 : Int} {x2 : Int} {μ : MM} {Q : Int → MM → Prop} (h : wpX9_letGo G i x1 x2 μ Q) (hi_i : 0 ≤ i ∧ i < G 0 0) : Met l yX9_letGo (Cond.code yX9_letGo cX9_letGo 3 none :: uw) (rmm 0 0) (wPc [.ref (ad 2 i), .int (iI x1), .int (iI x2)] (dmC G) (cfC G) tyC (exC G) D cy ad A μ) (wQ vV Q (dmC G) (cfC G) D cy ad A) 0 0 A :=
  met_of (by decide) (Nat.le_of_ble_eq_true rfl) (fun p e R s m args below meth c ls hr hk hRR F hA hw hS hl => wX9_letGo F hA (by subst hRR; exact ⟨Nat.le_refl _, Nat.le_refl _⟩) (retV_of F hr hk) h hi_i hw hS hl)
theorem hdX9_letGo : yX9_letGo.cls ≠ "java/lang/invoke/MethodHandle" ∧ yX9_letGo.cls ≠ "java/lang/invoke/VarHandle" ∧ (parseMethodDescriptor yX9_letGo.desc).map (fun d => d.parameters.length) = some 2 := by decide +kernel
def wpD_letGo (G : GG) (i : Int) (x1 : Int) (x2 : Int) (μ : MM) (Q : Int → MM → Prop) : Prop := if G 1 i = 0 then wpX9_letGo G i x1 x2 μ Q else if G 1 i = 1 then wpX4_letGo G i x1 x2 μ Q else if G 1 i = 2 then wpX7_letGo G i x1 x2 μ Q else wpX4_letGo G i x1 x2 μ Q
set_option maxRecDepth 100000 in
set_option maxHeartbeats 4000000 in
theorem dc_Train_letGo {G : GG} {i x1 x2 : Int} {μ : MM} {Q : Int → MM → Prop} {H : Heap} {locs : List Loc} {cc : ByteArray} {pc nL idx : Nat} {ls : Array Slot} {rest st0 : List Value} {own : String} (F : CallFix p m c cc nL s args uw own) (hl : Cond.methodLink own idx yX9_letGo ∈ uw) (h : wpD_letGo G i x1 x2 μ Q) (hi : 0 ≤ i ∧ i < G 0 0) (hR : 2 ≤ R.frames ∧ 45 ≤ R.locals) (hA : ∀ q : Nat, s.heap.size ≤ q → A q) (hw : wdC G D cy ad A μ s H) (hS : va_S A s.heap H locs) (hsz : ls.size = nL) (hst0 : st0 = ([.int (iI x1), .int (iI x2)] : List Value).reverse ++ .ref (ad 2 i) :: rest) (hrm : (rest.map fun v => v.category).sum ≤ 8) (hdg : decode cc pc = .ok (.invokevirtual idx, 3)) (kk : ∀ (v : Int) (u : MM) (H1 : Heap) (locs1 : List Loc), Q v u → wdC G D cy ad A u s H1 → va_S A s.heap H1 locs1 → W p l e R s m args below meth c H1 locs1 0 0 Qf (F0 m (pc + 3) ls ((vV v).toList ++ rest))) : W p l e R s m args below meth c H locs 0 0 Qf (F0 m pc ls st0) := by
  have hG := (hw.2.1.2.1 i hi.1 hi.2).1
  rcases (show G 1 i = 0 ∨ G 1 i = 1 ∨ G 1 i = 2 ∨ G 1 i = 3 by omega) with q | q | q | q
  · have h := ite_t q h
    exact call_V hexC F (kX9_letGo h hi) 2 tw3_195 tw1_11 tw3_175 tw3_176 hl hdX9_letGo ⟨Nat.le_trans (by decide) hR.1, Nat.le_trans (by decide) hR.2⟩ (recvT hw hi (C := RX9) (Or.inl ⟨q, rfl⟩)) hA hw hS rfl hsz hst0 hrm hdg kk
  · have h := ite_f (show ¬ G 1 i = 0 by omega) h
    have h := ite_t q h
    exact call_U (owner := "HammerTowers$Train") (x := yX9_letGo) hexC F (kX4_letGo h hi (by omega)) 2 tw3_180 tw1_12 tw3_179 tw3_188 hl tw3_177 tw3_175 tw3_195 (by decide +kernel) ⟨Nat.le_trans (by decide) hR.1, Nat.le_trans (by decide) hR.2⟩ (recvT hw hi (C := RX4) (Or.inr (Or.inl ⟨q, rfl⟩))) hA hw hS rfl hsz hst0 hrm hdg kk
  · have h := ite_f (show ¬ G 1 i = 0 by omega) h
    have h := ite_f (show ¬ G 1 i = 1 by omega) h
    have h := ite_t q h
    exact call_U (owner := "HammerTowers$Train") (x := yX9_letGo) hexC F (kX7_letGo h hi q) 2 tw3_191 tw1_14 tw3_190 tw3_189 hl tw3_177 tw3_175 tw3_195 (by decide +kernel) ⟨Nat.le_trans (by decide) hR.1, Nat.le_trans (by decide) hR.2⟩ (recvT hw hi (C := RX7) (Or.inr (Or.inr (Or.inl ⟨q, rfl⟩)))) hA hw hS rfl hsz hst0 hrm hdg kk
  · have h := ite_f (show ¬ G 1 i = 0 by omega) h
    have h := ite_f (show ¬ G 1 i = 1 by omega) h
    have h := ite_f (show ¬ G 1 i = 2 by omega) h
    exact call_U (owner := "HammerTowers$Train") (x := yX9_letGo) hexC F (kX4_letGo h hi (by omega)) 2 tw3_180 tw1_12 tw3_179 tw3_178 hl tw3_177 tw3_175 tw3_195 (by decide +kernel) ⟨Nat.le_trans (by decide) hR.1, Nat.le_trans (by decide) hR.2⟩ (recvT hw hi (C := RX0) (Or.inr (Or.inr (Or.inr ⟨q, rfl⟩)))) hA hw hS rfl hsz hst0 hrm hdg kk
def wpX8_letOffByHands_J42 (G : GG) (Q : Int → MM → Prop) (t0 : Int) (t1 : Int) (t2 : Int) (μ : MM) : Prop := wpD_letGo G t0 t1 t2 μ (fun v1 μ2 => Q 0 μ2)
set_option maxRecDepth 100000 in
set_option maxHeartbeats 4000000 in
theorem wX8_letOffByHands_J42 {G : GG} {Q : Int → MM → Prop} {t0 : Int} {t1 : Int} {t2 : Int} {μ : MM} {H : Heap} {locs : List Loc} {ls : Array Slot} (F : CallFix p m c cX8_letOffByHands 5 s args uw RX8) (hA : ∀ q : Nat, s.heap.size ≤ q → A q) (hR : 2 ≤ R.frames ∧ 45 ≤ R.locals) (ret : RetV p l e R s m args below meth c cX8_letOffByHands Qf (dmC G) (cfC G) tyC (exC G) D cy ad A Q) (h : wpX8_letOffByHands_J42 G Q t0 t1 t2 μ) (hi_t0 : 0 ≤ t0 ∧ t0 < G 0 0) (hw : wdC G D cy ad A μ s H) (hS : va_S A s.heap H locs) (hl : lv_has ls 5 []) : W p l e R s m args below meth c H locs 0 0 Qf (F0 m 42 ls [.int (iI t2), .int (iI t1), .ref (ad 2 t0)]) := by
  have hx := F.1
  have hb := F.2.1
  have hown := F.2.2.2.1
  have hts := F.2.2.2.2
  refine dc_Train_letGo F tw3_174 h hi_t0 ⟨Nat.le_trans (by decide) hR.1, Nat.le_trans (by decide) hR.2⟩ hA hw hS hl.1 rfl (Nat.le_of_ble_eq_true rfl) dX8_letOffByHands_42 (fun v1 μ2 H locs h hw hS => ?_)
  exact ret _ _ _ _ _ h hw hS dX8_letOffByHands_45
def wpX8_letOffByHands_J41 (G : GG) (Q : Int → MM → Prop) (t0 : Int) (t1 : Int) (μ : MM) : Prop := wpX8_letOffByHands_J42 G Q t0 t1 0 μ
set_option maxRecDepth 100000 in
set_option maxHeartbeats 4000000 in
theorem wX8_letOffByHands_J41 {G : GG} {Q : Int → MM → Prop} {t0 : Int} {t1 : Int} {μ : MM} {H : Heap} {locs : List Loc} {ls : Array Slot} (F : CallFix p m c cX8_letOffByHands 5 s args uw RX8) (hA : ∀ q : Nat, s.heap.size ≤ q → A q) (hR : 2 ≤ R.frames ∧ 45 ≤ R.locals) (ret : RetV p l e R s m args below meth c cX8_letOffByHands Qf (dmC G) (cfC G) tyC (exC G) D cy ad A Q) (h : wpX8_letOffByHands_J41 G Q t0 t1 μ) (hi_t0 : 0 ≤ t0 ∧ t0 < G 0 0) (hw : wdC G D cy ad A μ s H) (hS : va_S A s.heap H locs) (hl : lv_has ls 5 []) : W p l e R s m args below meth c H locs 0 0 Qf (F0 m 41 ls [.int (iI t1), .ref (ad 2 t0)]) := by
  have hx := F.1
  have hb := F.2.1
  have hown := F.2.2.2.1
  have hts := F.2.2.2.2
  refine q_iconst hx hb dX8_letOffByHands_41 ?_
  exact wX8_letOffByHands_J42 F hA hR ret h hi_t0 hw hS (lv_sub hl [] rfl)
def wpX8_letOffByHands_J10 (G : GG) (Q : Int → MM → Prop) (i : Int) (x1 : Int) (x2 : Int) (t0 : Int) (μ : MM) : Prop := wpX8_nextPlace G i x2 μ (fun v1 μ2 => rg ((v1 + t0) - 1) ∧ (rg t0 ∧ (t0 ≠ 0 ∧ (∀ y6 : Int, y6 = Int.tmod ((v1 + t0) - 1) t0 → (rg x2 ∧ (if x2 = 0 then (wpX8_letOffByHands_J41 G Q x1 y6 μ2) else (rg y6 ∧ (if y6 = 3 then (wpX8_letOffByHands_J42 G Q x1 y6 1 μ2) else (wpX8_letOffByHands_J41 G Q x1 y6 μ2)))))))))
set_option maxRecDepth 100000 in
set_option maxHeartbeats 4000000 in
theorem wX8_letOffByHands_J10 {G : GG} {Q : Int → MM → Prop} {i : Int} {x1 : Int} {x2 : Int} {t0 : Int} {μ : MM} {H : Heap} {locs : List Loc} {ls : Array Slot} (F : CallFix p m c cX8_letOffByHands 5 s args uw RX8) (hA : ∀ q : Nat, s.heap.size ≤ q → A q) (hR : 2 ≤ R.frames ∧ 45 ≤ R.locals) (ret : RetV p l e R s m args below meth c cX8_letOffByHands Qf (dmC G) (cfC G) tyC (exC G) D cy ad A Q) (h : wpX8_letOffByHands_J10 G Q i x1 x2 t0 μ) (hi_i : 0 ≤ i ∧ i < 4) (hi_x1 : 0 ≤ x1 ∧ x1 < G 0 0) (hw : wdC G D cy ad A μ s H) (hS : va_S A s.heap H locs) (hl : lv_has ls 5 [(0, .ref (ad 3 i)), (1, .ref (ad 2 x1)), (2, .int (iI x2))]) : W p l e R s m args below meth c H locs 0 0 Qf (F0 m 10 ls [.int (iI t0)]) := by
  have hx := F.1
  have hb := F.2.1
  have hown := F.2.2.2.1
  have hts := F.2.2.2.2
  refine lv_istore_n (lv' := [(3, .int (iI t0)), (0, .ref (ad 3 i)), (1, .ref (ad 2 x1)), (2, .int (iI x2))]) hx hb dX8_letOffByHands_10 rfl hl (by decide) rfl (fun ls hl => ?_)
  refine lv_aload_n hx hb dX8_letOffByHands_11 rfl (lv_at hl 1 rfl) ?_
  refine lv_iload_n hx hb dX8_letOffByHands_12 rfl (lv_at hl 3 rfl) ?_
  refine call_V hexC F (kX8_nextPlace h hi_i) 1 tw3_173 tw1_6 tw3_171 tw3_172 tw3_170 hdX8_nextPlace ⟨Nat.le_trans (by decide) hR.1, Nat.le_trans (by decide) hR.2⟩ (hw.recv (k := 3) (i := i) hi_i rfl rfl) hA hw hS rfl hl.1 rfl (Nat.le_of_ble_eq_true rfl) dX8_letOffByHands_13 (fun v1 μ2 H locs h hw hS => ?_)
  refine lv_iload_n hx hb dX8_letOffByHands_16 rfl (lv_at hl 0 rfl) ?_
  refine q_iadd hx hb dX8_letOffByHands_17 ?_
  refine q_iconst hx hb dX8_letOffByHands_18 ?_
  refine q_isub hx hb dX8_letOffByHands_19 ?_
  refine lv_iload_n hx hb dX8_letOffByHands_20 rfl (lv_at hl 0 rfl) ?_
  obtain ⟨g3, h⟩ := h
  obtain ⟨g4, h⟩ := h
  obtain ⟨g5, h⟩ := h
  refine q_irem hx hb g3 g4 g5 dX8_letOffByHands_21 ?_
  obtain ⟨y6, ey6⟩ : ∃ z : Int, z = Int.tmod ((v1 + t0) - 1) t0 := ⟨_, rfl⟩
  have h := h y6 ey6
  refine q_nmI ey6 ?_
  refine lv_istore (lv' := [(4, .int (iI y6)), (3, .int (iI t0)), (0, .ref (ad 3 i)), (1, .ref (ad 2 x1)), (2, .int (iI x2))]) hx hb dX8_letOffByHands_22 hl (by decide) rfl (fun ls hl => ?_)
  refine lv_aload_n hx hb dX8_letOffByHands_24 rfl (lv_at hl 3 rfl) ?_
  refine lv_iload hx hb dX8_letOffByHands_25 (lv_at hl 0 rfl) ?_
  refine lv_iload_n hx hb dX8_letOffByHands_27 rfl (lv_at hl 4 rfl) ?_
  obtain ⟨g7, h⟩ := h
  refine q_if_eq (tgt := 41) hx hb g7 dX8_letOffByHands_28 (by decide) (fun c8 => ?_) (fun c8 => ?_)
  · have h := ite_t c8 h
    exact wX8_letOffByHands_J41 F hA hR ret h hi_x1 hw hS (lv_sub hl [] rfl)
  · have h := ite_f c8 h
    refine lv_iload hx hb dX8_letOffByHands_31 (lv_at hl 0 rfl) ?_
    refine q_iconst hx hb dX8_letOffByHands_33 ?_
    obtain ⟨g9, h⟩ := h
    refine q_icmp_ne (tgt := 41) hx hb g9 (by decide) dX8_letOffByHands_34 (by decide) (fun c10 => ?_) (fun c10 => ?_)
    · have h := ite_f c10 h
      exact wX8_letOffByHands_J41 F hA hR ret h hi_x1 hw hS (lv_sub hl [] rfl)
    · have h := ite_t c10 h
      refine q_iconst hx hb dX8_letOffByHands_37 ?_
      refine lv_goto (tgt := 42) hx hb dX8_letOffByHands_38 (by decide) ?_
      exact wX8_letOffByHands_J42 F hA hR ret h hi_x1 hw hS (lv_sub hl [] rfl)
def wpX8_letOffByHands (G : GG) (i : Int) (x1 : Int) (x2 : Int) (μ : MM) (Q : Int → MM → Prop) : Prop := rg x2 ∧ (if x2 = 0 then (wpX8_letOffByHands_J10 G Q i x1 x2 12 μ) else (wpX8_letOffByHands_J10 G Q i x1 x2 4 μ))
set_option maxRecDepth 100000 in
set_option maxHeartbeats 4000000 in
theorem wX8_letOffByHands {G : GG} {Q : Int → MM → Prop} {i : Int} {x1 : Int} {x2 : Int} {μ : MM} {H : Heap} {locs : List Loc} {ls : Array Slot} (F : CallFix p m c cX8_letOffByHands 5 s args uw RX8) (hA : ∀ q : Nat, s.heap.size ≤ q → A q) (hR : 2 ≤ R.frames ∧ 45 ≤ R.locals) (ret : RetV p l e R s m args below meth c cX8_letOffByHands Qf (dmC G) (cfC G) tyC (exC G) D cy ad A Q) (h : wpX8_letOffByHands G i x1 x2 μ Q) (hi_i : 0 ≤ i ∧ i < 4) (hi_x1 : 0 ≤ x1 ∧ x1 < G 0 0) (hw : wdC G D cy ad A μ s H) (hS : va_S A s.heap H locs) (hl : lv_has ls 5 [(0, .ref (ad 3 i)), (1, .ref (ad 2 x1)), (2, .int (iI x2))]) : W p l e R s m args below meth c H locs 0 0 Qf (F0 m 0 ls []) := by
  have hx := F.1
  have hb := F.2.1
  have hown := F.2.2.2.1
  have hts := F.2.2.2.2
  refine lv_iload_n hx hb dX8_letOffByHands_0 rfl (lv_at hl 2 rfl) ?_
  obtain ⟨g1, h⟩ := h
  refine q_if_eq (tgt := 8) hx hb g1 dX8_letOffByHands_1 (by decide) (fun c2 => ?_) (fun c2 => ?_)
  · have h := ite_t c2 h
    refine q_bipush hx hb (by decide) dX8_letOffByHands_8 ?_
    exact wX8_letOffByHands_J10 F hA hR ret h hi_i hi_x1 hw hS (lv_sub hl [0, 1, 2] rfl)
  · have h := ite_f c2 h
    refine q_iconst hx hb dX8_letOffByHands_4 ?_
    refine lv_goto (tgt := 10) hx hb dX8_letOffByHands_5 (by decide) ?_
    exact wX8_letOffByHands_J10 F hA hR ret h hi_i hi_x1 hw hS (lv_sub hl [0, 1, 2] rfl)
set_option maxRecDepth 100000 in
set_option maxHeartbeats 4000000 in
theorem kX8_letOffByHands {l : Launch} {D : va_G} {cy : Nat → ClassId} {ad : AD} {A : Nat → Prop} {G : GG} {i : Int} {x1 : Int} {x2 : Int} {μ : MM} {Q : Int → MM → Prop} (h : wpX8_letOffByHands G i x1 x2 μ Q) (hi_i : 0 ≤ i ∧ i < 4) (hi_x1 : 0 ≤ x1 ∧ x1 < G 0 0) : Met l yX8_letOffByHands (Cond.code yX8_letOffByHands cX8_letOffByHands 5 none :: uw) (rmm 2 45) (wPc [.ref (ad 3 i), .ref (ad 2 x1), .int (iI x2)] (dmC G) (cfC G) tyC (exC G) D cy ad A μ) (wQ vV Q (dmC G) (cfC G) D cy ad A) 0 0 A :=
  met_of (by decide) (Nat.le_of_ble_eq_true rfl) (fun p e R s m args below meth c ls hr hk hRR F hA hw hS hl => wX8_letOffByHands F hA (by subst hRR; exact ⟨Nat.le_refl _, Nat.le_refl _⟩) (retV_of F hr hk) h hi_i hi_x1 hw hS hl)
theorem hdX8_letOffByHands : yX8_letOffByHands.cls ≠ "java/lang/invoke/MethodHandle" ∧ yX8_letOffByHands.cls ≠ "java/lang/invoke/VarHandle" ∧ (parseMethodDescriptor yX8_letOffByHands.desc).map (fun d => d.parameters.length) = some 2 := by decide +kernel
def wpX8_warnOrLetOff_J9 (G : GG) (Q : Int → MM → Prop) (i : Int) (x1 : Int) (x2 : Int) (x4 : Int) (μ : MM) : Prop := rg x4 ∧ (if x4 = 0 then (Q 0 μ) else (rg (μ 2 10 x1) ∧ (if (μ 2 10 x1) = 0 then (Q 0 μ) else (wpX8_silenceNow G i μ (fun v5 μ6 => rg v5 ∧ (if v5 = 2 then (Q 0 μ6) else (wpX8_letOffByHands G i x1 x2 μ6 (fun v9 μ10 => ∀ μ11 : MM, μ11 = ms μ10 2 10 x1 0 → (Q 0 μ11)))))))))
set_option maxRecDepth 100000 in
set_option maxHeartbeats 4000000 in
theorem wX8_warnOrLetOff_J9 {G : GG} {Q : Int → MM → Prop} {i : Int} {x1 : Int} {x2 : Int} {x4 : Int} {μ : MM} {H : Heap} {locs : List Loc} {ls : Array Slot} (F : CallFix p m c cX8_warnOrLetOff 5 s args uw RX8) (hA : ∀ q : Nat, s.heap.size ≤ q → A q) (hR : 3 ≤ R.frames ∧ 69 ≤ R.locals) (ret : RetV p l e R s m args below meth c cX8_warnOrLetOff Qf (dmC G) (cfC G) tyC (exC G) D cy ad A Q) (h : wpX8_warnOrLetOff_J9 G Q i x1 x2 x4 μ) (hi_i : 0 ≤ i ∧ i < 4) (hi_x1 : 0 ≤ x1 ∧ x1 < G 0 0) (hw : wdC G D cy ad A μ s H) (hS : va_S A s.heap H locs) (hl : lv_has ls 5 [(0, .ref (ad 3 i)), (1, .ref (ad 2 x1)), (2, .int (iI x2)), (4, .int (iI x4))]) : W p l e R s m args below meth c H locs 0 0 Qf (F0 m 9 ls []) := by
  have hx := F.1
  have hb := F.2.1
  have hown := F.2.2.2.1
  have hts := F.2.2.2.2
  refine lv_iload hx hb dX8_warnOrLetOff_9 (lv_at hl 3 rfl) ?_
  obtain ⟨g1, h⟩ := h
  refine q_if_eq (tgt := 40) hx hb g1 dX8_warnOrLetOff_11 (by decide) (fun c2 => ?_) (fun c2 => ?_)
  · have h := ite_t c2 h
    exact ret _ _ _ _ _ h hw hS dX8_warnOrLetOff_40
  · have h := ite_f c2 h
    refine lv_aload_n hx hb dX8_warnOrLetOff_14 rfl (lv_at hl 1 rfl) ?_
    refine gC_T_warned F hw hi_x1 tw2_100 (fun _ h => h) dX8_warnOrLetOff_15 ?_
    obtain ⟨g3, h⟩ := h
    refine q_if_eq (tgt := 40) hx hb g3 dX8_warnOrLetOff_18 (by decide) (fun c4 => ?_) (fun c4 => ?_)
    · have h := ite_t c4 h
      exact ret _ _ _ _ _ h hw hS dX8_warnOrLetOff_40
    · have h := ite_f c4 h
      refine lv_aload_n hx hb dX8_warnOrLetOff_21 rfl (lv_at hl 0 rfl) ?_
      refine call_V hexC F (kX8_silenceNow h hi_i) 0 tw3_162 tw1_6 tw3_160 tw3_161 tw3_159 hdX8_silenceNow ⟨Nat.le_trans (by decide) hR.1, Nat.le_trans (by decide) hR.2⟩ (hw.recv (k := 3) (i := i) hi_i rfl rfl) hA hw hS rfl hl.1 rfl (Nat.le_of_ble_eq_true rfl) dX8_warnOrLetOff_22 (fun v5 μ6 H locs h hw hS => ?_)
      refine q_iconst hx hb dX8_warnOrLetOff_25 ?_
      obtain ⟨g7, h⟩ := h
      refine q_icmp_eq (tgt := 40) hx hb g7 (by decide) dX8_warnOrLetOff_26 (by decide) (fun c8 => ?_) (fun c8 => ?_)
      · have h := ite_t c8 h
        exact ret _ _ _ _ _ h hw hS dX8_warnOrLetOff_40
      · have h := ite_f c8 h
        refine lv_aload_n hx hb dX8_warnOrLetOff_29 rfl (lv_at hl 0 rfl) ?_
        refine lv_aload_n hx hb dX8_warnOrLetOff_30 rfl (lv_at hl 1 rfl) ?_
        refine lv_iload_n hx hb dX8_warnOrLetOff_31 rfl (lv_at hl 2 rfl) ?_
        refine call_V hexC F (kX8_letOffByHands h hi_i hi_x1) 2 tw3_169 tw1_6 tw3_167 tw3_168 tw3_166 hdX8_letOffByHands ⟨Nat.le_trans (by decide) hR.1, Nat.le_trans (by decide) hR.2⟩ (hw.recv (k := 3) (i := i) hi_i rfl rfl) hA hw hS rfl hl.1 rfl (Nat.le_of_ble_eq_true rfl) dX8_warnOrLetOff_32 (fun v9 μ10 H locs h hw hS => ?_)
        refine lv_aload_n hx hb dX8_warnOrLetOff_35 rfl (lv_at hl 1 rfl) ?_
        refine q_iconst hx hb dX8_warnOrLetOff_36 ?_
        obtain ⟨μ11, eμ11⟩ : ∃ z : MM, z = ms μ10 2 10 x1 0 := ⟨_, rfl⟩
        have h := h μ11 eμ11
        refine pC_T_warned F hw hS hi_x1 tw2_100 (fun _ h => h) (Or.inl rfl) eμ11 dX8_warnOrLetOff_37 (fun H locs hw hS => ?_)
        exact ret _ _ _ _ _ h hw hS dX8_warnOrLetOff_40
def wpX8_warnOrLetOff (G : GG) (i : Int) (x1 : Int) (x2 : Int) (x3 : Int) (x4 : Int) (μ : MM) (Q : Int → MM → Prop) : Prop := rg x3 ∧ (if x3 = 0 then (wpX8_warnOrLetOff_J9 G Q i x1 x2 x4 μ) else (∀ μ3 : MM, μ3 = ms μ 2 10 x1 1 → (wpX8_warnOrLetOff_J9 G Q i x1 x2 x4 μ3)))
set_option maxRecDepth 100000 in
set_option maxHeartbeats 4000000 in
theorem wX8_warnOrLetOff {G : GG} {Q : Int → MM → Prop} {i : Int} {x1 : Int} {x2 : Int} {x3 : Int} {x4 : Int} {μ : MM} {H : Heap} {locs : List Loc} {ls : Array Slot} (F : CallFix p m c cX8_warnOrLetOff 5 s args uw RX8) (hA : ∀ q : Nat, s.heap.size ≤ q → A q) (hR : 3 ≤ R.frames ∧ 69 ≤ R.locals) (ret : RetV p l e R s m args below meth c cX8_warnOrLetOff Qf (dmC G) (cfC G) tyC (exC G) D cy ad A Q) (h : wpX8_warnOrLetOff G i x1 x2 x3 x4 μ Q) (hi_i : 0 ≤ i ∧ i < 4) (hi_x1 : 0 ≤ x1 ∧ x1 < G 0 0) (hw : wdC G D cy ad A μ s H) (hS : va_S A s.heap H locs) (hl : lv_has ls 5 [(0, .ref (ad 3 i)), (1, .ref (ad 2 x1)), (2, .int (iI x2)), (3, .int (iI x3)), (4, .int (iI x4))]) : W p l e R s m args below meth c H locs 0 0 Qf (F0 m 0 ls []) := by
  have hx := F.1
  have hb := F.2.1
  have hown := F.2.2.2.1
  have hts := F.2.2.2.2
  refine lv_iload_n hx hb dX8_warnOrLetOff_0 rfl (lv_at hl 3 rfl) ?_
  obtain ⟨g1, h⟩ := h
  refine q_if_eq (tgt := 9) hx hb g1 dX8_warnOrLetOff_1 (by decide) (fun c2 => ?_) (fun c2 => ?_)
  · have h := ite_t c2 h
    exact wX8_warnOrLetOff_J9 F hA hR ret h hi_i hi_x1 hw hS (lv_sub hl [0, 1, 2, 4] rfl)
  · have h := ite_f c2 h
    refine lv_aload_n hx hb dX8_warnOrLetOff_4 rfl (lv_at hl 1 rfl) ?_
    refine q_iconst hx hb dX8_warnOrLetOff_5 ?_
    obtain ⟨μ3, eμ3⟩ : ∃ z : MM, z = ms μ 2 10 x1 1 := ⟨_, rfl⟩
    have h := h μ3 eμ3
    refine pC_T_warned F hw hS hi_x1 tw2_100 (fun _ h => h) (Or.inr rfl) eμ3 dX8_warnOrLetOff_6 (fun H locs hw hS => ?_)
    exact wX8_warnOrLetOff_J9 F hA hR ret h hi_i hi_x1 hw hS (lv_sub hl [0, 1, 2, 4] rfl)
set_option maxRecDepth 100000 in
set_option maxHeartbeats 4000000 in
theorem kX8_warnOrLetOff {l : Launch} {D : va_G} {cy : Nat → ClassId} {ad : AD} {A : Nat → Prop} {G : GG} {i : Int} {x1 : Int} {x2 : Int} {x3 : Int} {x4 : Int} {μ : MM} {Q : Int → MM → Prop} (h : wpX8_warnOrLetOff G i x1 x2 x3 x4 μ Q) (hi_i : 0 ≤ i ∧ i < 4) (hi_x1 : 0 ≤ x1 ∧ x1 < G 0 0) : Met l yX8_warnOrLetOff (Cond.code yX8_warnOrLetOff cX8_warnOrLetOff 5 none :: uw) (rmm 3 69) (wPc [.ref (ad 3 i), .ref (ad 2 x1), .int (iI x2), .int (iI x3), .int (iI x4)] (dmC G) (cfC G) tyC (exC G) D cy ad A μ) (wQ vV Q (dmC G) (cfC G) D cy ad A) 0 0 A :=
  met_of (by decide) (Nat.le_of_ble_eq_true rfl) (fun p e R s m args below meth c ls hr hk hRR F hA hw hS hl => wX8_warnOrLetOff F hA (by subst hRR; exact ⟨Nat.le_refl _, Nat.le_refl _⟩) (retV_of F hr hk) h hi_i hi_x1 hw hS hl)
theorem hdX8_warnOrLetOff : yX8_warnOrLetOff.cls ≠ "java/lang/invoke/MethodHandle" ∧ yX8_warnOrLetOff.cls ≠ "java/lang/invoke/VarHandle" ∧ (parseMethodDescriptor yX8_warnOrLetOff.desc).map (fun d => d.parameters.length) = some 4 := by decide +kernel
def wpX8_stepForward_J73 (G : GG) (Q : Int → MM → Prop) (t0 : Int) (t1 : Int) (t2 : Int) (t3 : Int) (t4 : Int) (μ : MM) : Prop := 0 ≤ t1 ∧ (t1 < G 0 0 ∧ (wpX8_warnOrLetOff G t0 t1 t2 t3 t4 μ (fun v3 μ4 => Q 0 μ4)))
set_option maxRecDepth 100000 in
set_option maxHeartbeats 4000000 in
theorem wX8_stepForward_J73 {G : GG} {Q : Int → MM → Prop} {t0 : Int} {t1 : Int} {t2 : Int} {t3 : Int} {t4 : Int} {μ : MM} {H : Heap} {locs : List Loc} {ls : Array Slot} (F : CallFix p m c cX8_stepForward 2 s args uw RX8) (hA : ∀ q : Nat, s.heap.size ≤ q → A q) (hR : 4 ≤ R.frames ∧ 93 ≤ R.locals) (ret : RetV p l e R s m args below meth c cX8_stepForward Qf (dmC G) (cfC G) tyC (exC G) D cy ad A Q) (h : wpX8_stepForward_J73 G Q t0 t1 t2 t3 t4 μ) (hi_t0 : 0 ≤ t0 ∧ t0 < 4) (hw : wdC G D cy ad A μ s H) (hS : va_S A s.heap H locs) (hl : lv_has ls 2 []) : W p l e R s m args below meth c H locs 0 0 Qf (F0 m 73 ls [.int (iI t4), .int (iI t3), .int (iI t2), rf ad 2 t1, .ref (ad 3 t0)]) := by
  have hx := F.1
  have hb := F.2.1
  have hown := F.2.2.2.1
  have hts := F.2.2.2.2
  obtain ⟨g1, h⟩ := h
  obtain ⟨g2, h⟩ := h
  refine call_V hexC F (kX8_warnOrLetOff h hi_t0 (And.intro g1 g2)) 4 tw3_158 tw1_6 tw3_157 tws1_6 tw3_155 hdX8_warnOrLetOff ⟨Nat.le_trans (by decide) hR.1, Nat.le_trans (by decide) hR.2⟩ (hw.recv (k := 3) (i := t0) hi_t0 rfl rfl) hA hw hS rfl hl.1 (by first | (rw [rf_pos (ad := ad) (k := 2) ((And.intro g1 g2)).1]; rfl) | (simp only [rf_pos (ad := ad) (k := 2) ((And.intro g1 g2)).1]; rfl)) (Nat.le_of_ble_eq_true rfl) dX8_stepForward_73 (fun v3 μ4 H locs h hw hS => ?_)
  refine lv_goto (tgt := 115) hx hb dX8_stepForward_76 (by decide) ?_
  exact ret _ _ _ _ _ h hw hS dX8_stepForward_115
def wpX8_stepForward_J61 (G : GG) (Q : Int → MM → Prop) (x1 : Int) (t0 : Int) (t1 : Int) (t2 : Int) (t3 : Int) (μ : MM) : Prop := rg x1 ∧ (rg (Int.tmod x1 15) ∧ (if (Int.tmod x1 15) = 0 then (wpX8_stepForward_J73 G Q t0 t1 t2 t3 1 μ) else (wpX8_stepForward_J73 G Q t0 t1 t2 t3 0 μ)))
set_option maxRecDepth 100000 in
set_option maxHeartbeats 4000000 in
theorem wX8_stepForward_J61 {G : GG} {Q : Int → MM → Prop} {x1 : Int} {t0 : Int} {t1 : Int} {t2 : Int} {t3 : Int} {μ : MM} {H : Heap} {locs : List Loc} {ls : Array Slot} (F : CallFix p m c cX8_stepForward 2 s args uw RX8) (hA : ∀ q : Nat, s.heap.size ≤ q → A q) (hR : 4 ≤ R.frames ∧ 93 ≤ R.locals) (ret : RetV p l e R s m args below meth c cX8_stepForward Qf (dmC G) (cfC G) tyC (exC G) D cy ad A Q) (h : wpX8_stepForward_J61 G Q x1 t0 t1 t2 t3 μ) (hi_t0 : 0 ≤ t0 ∧ t0 < 4) (hw : wdC G D cy ad A μ s H) (hS : va_S A s.heap H locs) (hl : lv_has ls 2 [(1, .int (iI x1))]) : W p l e R s m args below meth c H locs 0 0 Qf (F0 m 61 ls [.int (iI t3), .int (iI t2), rf ad 2 t1, .ref (ad 3 t0)]) := by
  have hx := F.1
  have hb := F.2.1
  have hown := F.2.2.2.1
  have hts := F.2.2.2.2
  refine lv_iload_n hx hb dX8_stepForward_61 rfl (lv_at hl 0 rfl) ?_
  refine q_bipush hx hb (by decide) dX8_stepForward_62 ?_
  obtain ⟨g1, h⟩ := h
  refine q_irem hx hb g1 (by decide) (by decide) dX8_stepForward_64 ?_
  obtain ⟨g2, h⟩ := h
  refine q_if_ne (tgt := 72) hx hb g2 dX8_stepForward_65 (by decide) (fun c3 => ?_) (fun c3 => ?_)
  · have h := ite_f c3 h
    refine q_iconst hx hb dX8_stepForward_72 ?_
    exact wX8_stepForward_J73 F hA hR ret h hi_t0 hw hS (lv_sub hl [] rfl)
  · have h := ite_t c3 h
    refine q_iconst hx hb dX8_stepForward_68 ?_
    refine lv_goto (tgt := 73) hx hb dX8_stepForward_69 (by decide) ?_
    exact wX8_stepForward_J73 F hA hR ret h hi_t0 hw hS (lv_sub hl [] rfl)
def wpX8_stepForward_J112 (G : GG) (Q : Int → MM → Prop) (t0 : Int) (t1 : Int) (t2 : Int) (t3 : Int) (t4 : Int) (μ : MM) : Prop := 0 ≤ t1 ∧ (t1 < G 0 0 ∧ (wpX8_warnOrLetOff G t0 t1 t2 t3 t4 μ (fun v3 μ4 => Q 0 μ4)))
set_option maxRecDepth 100000 in
set_option maxHeartbeats 4000000 in
theorem wX8_stepForward_J112 {G : GG} {Q : Int → MM → Prop} {t0 : Int} {t1 : Int} {t2 : Int} {t3 : Int} {t4 : Int} {μ : MM} {H : Heap} {locs : List Loc} {ls : Array Slot} (F : CallFix p m c cX8_stepForward 2 s args uw RX8) (hA : ∀ q : Nat, s.heap.size ≤ q → A q) (hR : 4 ≤ R.frames ∧ 93 ≤ R.locals) (ret : RetV p l e R s m args below meth c cX8_stepForward Qf (dmC G) (cfC G) tyC (exC G) D cy ad A Q) (h : wpX8_stepForward_J112 G Q t0 t1 t2 t3 t4 μ) (hi_t0 : 0 ≤ t0 ∧ t0 < 4) (hw : wdC G D cy ad A μ s H) (hS : va_S A s.heap H locs) (hl : lv_has ls 2 []) : W p l e R s m args below meth c H locs 0 0 Qf (F0 m 112 ls [.int (iI t4), .int (iI t3), .int (iI t2), rf ad 2 t1, .ref (ad 3 t0)]) := by
  have hx := F.1
  have hb := F.2.1
  have hown := F.2.2.2.1
  have hts := F.2.2.2.2
  obtain ⟨g1, h⟩ := h
  obtain ⟨g2, h⟩ := h
  refine call_V hexC F (kX8_warnOrLetOff h hi_t0 (And.intro g1 g2)) 4 tw3_158 tw1_6 tw3_157 tws1_6 tw3_155 hdX8_warnOrLetOff ⟨Nat.le_trans (by decide) hR.1, Nat.le_trans (by decide) hR.2⟩ (hw.recv (k := 3) (i := t0) hi_t0 rfl rfl) hA hw hS rfl hl.1 (by first | (rw [rf_pos (ad := ad) (k := 2) ((And.intro g1 g2)).1]; rfl) | (simp only [rf_pos (ad := ad) (k := 2) ((And.intro g1 g2)).1]; rfl)) (Nat.le_of_ble_eq_true rfl) dX8_stepForward_112 (fun v3 μ4 H locs h hw hS => ?_)
  exact ret _ _ _ _ _ h hw hS dX8_stepForward_115
def wpX8_stepForward_J103 (G : GG) (Q : Int → MM → Prop) (x1 : Int) (t0 : Int) (t1 : Int) (t2 : Int) (t3 : Int) (μ : MM) : Prop := rg x1 ∧ (if x1 = 0 then (wpX8_stepForward_J112 G Q t0 t1 t2 t3 1 μ) else (wpX8_stepForward_J112 G Q t0 t1 t2 t3 0 μ))
set_option maxRecDepth 100000 in
set_option maxHeartbeats 4000000 in
theorem wX8_stepForward_J103 {G : GG} {Q : Int → MM → Prop} {x1 : Int} {t0 : Int} {t1 : Int} {t2 : Int} {t3 : Int} {μ : MM} {H : Heap} {locs : List Loc} {ls : Array Slot} (F : CallFix p m c cX8_stepForward 2 s args uw RX8) (hA : ∀ q : Nat, s.heap.size ≤ q → A q) (hR : 4 ≤ R.frames ∧ 93 ≤ R.locals) (ret : RetV p l e R s m args below meth c cX8_stepForward Qf (dmC G) (cfC G) tyC (exC G) D cy ad A Q) (h : wpX8_stepForward_J103 G Q x1 t0 t1 t2 t3 μ) (hi_t0 : 0 ≤ t0 ∧ t0 < 4) (hw : wdC G D cy ad A μ s H) (hS : va_S A s.heap H locs) (hl : lv_has ls 2 [(1, .int (iI x1))]) : W p l e R s m args below meth c H locs 0 0 Qf (F0 m 103 ls [.int (iI t3), .int (iI t2), rf ad 2 t1, .ref (ad 3 t0)]) := by
  have hx := F.1
  have hb := F.2.1
  have hown := F.2.2.2.1
  have hts := F.2.2.2.2
  refine lv_iload_n hx hb dX8_stepForward_103 rfl (lv_at hl 0 rfl) ?_
  obtain ⟨g1, h⟩ := h
  refine q_if_ne (tgt := 111) hx hb g1 dX8_stepForward_104 (by decide) (fun c2 => ?_) (fun c2 => ?_)
  · have h := ite_f c2 h
    refine q_iconst hx hb dX8_stepForward_111 ?_
    exact wX8_stepForward_J112 F hA hR ret h hi_t0 hw hS (lv_sub hl [] rfl)
  · have h := ite_t c2 h
    refine q_iconst hx hb dX8_stepForward_107 ?_
    refine lv_goto (tgt := 112) hx hb dX8_stepForward_108 (by decide) ?_
    exact wX8_stepForward_J112 F hA hR ret h hi_t0 hw hS (lv_sub hl [] rfl)
def wpX8_stepForward_J23 (G : GG) (Q : Int → MM → Prop) (i : Int) (t0 : Int) (t1 : Int) (μ : MM) : Prop := ∀ μ1 : MM, μ1 = ms μ 3 1 t0 t1 → (rg (μ1 3 1 i) ∧ (∀ y3 : Int, y3 = Int.tmod (μ1 3 1 i) 60 → (if μ1 3 7 i < 0 then (if μ1 3 6 i < 0 then (Q 0 μ1) else (μ1 3 6 i < G 0 0 ∧ (rg y3 ∧ (if y3 = 55 then (wpX8_stepForward_J103 G Q y3 i (μ1 3 6 i) 0 1 μ1) else (wpX8_stepForward_J103 G Q y3 i (μ1 3 6 i) 0 0 μ1))))) else (μ1 3 7 i < G 0 0 ∧ (rg y3 ∧ (rg (Int.tmod y3 15) ∧ (if (Int.tmod y3 15) = 10 then (wpX8_stepForward_J61 G Q y3 i (μ1 3 7 i) 1 1 μ1) else (wpX8_stepForward_J61 G Q y3 i (μ1 3 7 i) 1 0 μ1))))))))
set_option maxRecDepth 100000 in
set_option maxHeartbeats 4000000 in
theorem wX8_stepForward_J23 {G : GG} {Q : Int → MM → Prop} {i : Int} {t0 : Int} {t1 : Int} {μ : MM} {H : Heap} {locs : List Loc} {ls : Array Slot} (F : CallFix p m c cX8_stepForward 2 s args uw RX8) (hA : ∀ q : Nat, s.heap.size ≤ q → A q) (hR : 4 ≤ R.frames ∧ 93 ≤ R.locals) (ret : RetV p l e R s m args below meth c cX8_stepForward Qf (dmC G) (cfC G) tyC (exC G) D cy ad A Q) (h : wpX8_stepForward_J23 G Q i t0 t1 μ) (hi_i : 0 ≤ i ∧ i < 4) (hi_t0 : 0 ≤ t0 ∧ t0 < 4) (hw : wdC G D cy ad A μ s H) (hS : va_S A s.heap H locs) (hl : lv_has ls 2 [(0, .ref (ad 3 i))]) : W p l e R s m args below meth c H locs 0 0 Qf (F0 m 23 ls [.int (iI t1), .ref (ad 3 t0)]) := by
  have hx := F.1
  have hb := F.2.1
  have hown := F.2.2.2.1
  have hts := F.2.2.2.2
  obtain ⟨μ1, eμ1⟩ : ∃ z : MM, z = ms μ 3 1 t0 t1 := ⟨_, rfl⟩
  have h := h μ1 eμ1
  refine pC_W_hands F hw hS hi_t0 tw1_164 eμ1 dX8_stepForward_23 (fun H locs hw hS => ?_)
  refine lv_aload_n hx hb dX8_stepForward_26 rfl (lv_at hl 0 rfl) ?_
  refine gC_W_hands F hw hi_i tw1_164 dX8_stepForward_27 ?_
  refine q_bipush hx hb (by decide) dX8_stepForward_30 ?_
  obtain ⟨g2, h⟩ := h
  refine q_irem hx hb g2 (by decide) (by decide) dX8_stepForward_32 ?_
  obtain ⟨y3, ey3⟩ : ∃ z : Int, z = Int.tmod (μ1 3 1 i) 60 := ⟨_, rfl⟩
  have h := h y3 ey3
  refine q_nmI ey3 ?_
  refine lv_istore_n (lv' := [(1, .int (iI y3)), (0, .ref (ad 3 i))]) hx hb dX8_stepForward_33 rfl hl (by decide) rfl (fun ls hl => ?_)
  refine lv_aload_n hx hb dX8_stepForward_34 rfl (lv_at hl 1 rfl) ?_
  refine gC_W_quarterTrain F hw hi_i tw1_175 dX8_stepForward_35 ?_
  refine q_ifnull (tgt := 79) hx hb dX8_stepForward_38 (by decide) (fun c4 => ?_) (fun c4 => ?_)
  · have h := ite_t c4 h
    refine lv_aload_n hx hb dX8_stepForward_79 rfl (lv_at hl 1 rfl) ?_
    refine gC_W_hourTrain F hw hi_i tw1_174 dX8_stepForward_80 ?_
    refine q_ifnull (tgt := 115) hx hb dX8_stepForward_83 (by decide) (fun c5 => ?_) (fun c5 => ?_)
    · have h := ite_t c5 h
      exact ret _ _ _ _ _ h hw hS dX8_stepForward_115
    · have h := ite_f c5 h
      obtain ⟨g6, h⟩ := h
      have hi7 : 0 ≤ μ1 3 6 i ∧ μ1 3 6 i < G 0 0 := ⟨by omega, g6⟩
      refine lv_aload_n hx hb dX8_stepForward_86 rfl (lv_at hl 1 rfl) ?_
      refine lv_aload_n hx hb dX8_stepForward_87 rfl (lv_at hl 1 rfl) ?_
      refine gC_W_hourTrain F hw hi_i tw1_174 dX8_stepForward_88 ?_
      refine q_iconst hx hb dX8_stepForward_91 ?_
      refine lv_iload_n hx hb dX8_stepForward_92 rfl (lv_at hl 0 rfl) ?_
      refine q_bipush hx hb (by decide) dX8_stepForward_93 ?_
      obtain ⟨g8, h⟩ := h
      refine q_icmp_ne (tgt := 102) hx hb g8 (by decide) dX8_stepForward_95 (by decide) (fun c9 => ?_) (fun c9 => ?_)
      · have h := ite_f c9 h
        refine q_iconst hx hb dX8_stepForward_102 ?_
        exact wX8_stepForward_J103 F hA hR ret h hi_i hw hS (lv_sub hl [0] rfl)
      · have h := ite_t c9 h
        refine q_iconst hx hb dX8_stepForward_98 ?_
        refine lv_goto (tgt := 103) hx hb dX8_stepForward_99 (by decide) ?_
        exact wX8_stepForward_J103 F hA hR ret h hi_i hw hS (lv_sub hl [0] rfl)
  · have h := ite_f c4 h
    obtain ⟨g10, h⟩ := h
    have hi11 : 0 ≤ μ1 3 7 i ∧ μ1 3 7 i < G 0 0 := ⟨by omega, g10⟩
    refine lv_aload_n hx hb dX8_stepForward_41 rfl (lv_at hl 1 rfl) ?_
    refine lv_aload_n hx hb dX8_stepForward_42 rfl (lv_at hl 1 rfl) ?_
    refine gC_W_quarterTrain F hw hi_i tw1_175 dX8_stepForward_43 ?_
    refine q_iconst hx hb dX8_stepForward_46 ?_
    refine lv_iload_n hx hb dX8_stepForward_47 rfl (lv_at hl 0 rfl) ?_
    refine q_bipush hx hb (by decide) dX8_stepForward_48 ?_
    obtain ⟨g12, h⟩ := h
    refine q_irem hx hb g12 (by decide) (by decide) dX8_stepForward_50 ?_
    refine q_bipush hx hb (by decide) dX8_stepForward_51 ?_
    obtain ⟨g13, h⟩ := h
    refine q_icmp_ne (tgt := 60) hx hb g13 (by decide) dX8_stepForward_53 (by decide) (fun c14 => ?_) (fun c14 => ?_)
    · have h := ite_f c14 h
      refine q_iconst hx hb dX8_stepForward_60 ?_
      exact wX8_stepForward_J61 F hA hR ret h hi_i hw hS (lv_sub hl [0] rfl)
    · have h := ite_t c14 h
      refine q_iconst hx hb dX8_stepForward_56 ?_
      refine lv_goto (tgt := 61) hx hb dX8_stepForward_57 (by decide) ?_
      exact wX8_stepForward_J61 F hA hR ret h hi_i hw hS (lv_sub hl [0] rfl)
def wpX8_stepForward (G : GG) (i : Int) (μ : MM) (Q : Int → MM → Prop) : Prop := rg ((μ 3 1 i) + 1) ∧ (if 1440 ≤ ((μ 3 1 i) + 1) then (wpX8_stepForward_J23 G Q i i 0 μ) else (wpX8_stepForward_J23 G Q i i ((μ 3 1 i) + 1) μ))
set_option maxRecDepth 100000 in
set_option maxHeartbeats 4000000 in
theorem wX8_stepForward {G : GG} {Q : Int → MM → Prop} {i : Int} {μ : MM} {H : Heap} {locs : List Loc} {ls : Array Slot} (F : CallFix p m c cX8_stepForward 2 s args uw RX8) (hA : ∀ q : Nat, s.heap.size ≤ q → A q) (hR : 4 ≤ R.frames ∧ 93 ≤ R.locals) (ret : RetV p l e R s m args below meth c cX8_stepForward Qf (dmC G) (cfC G) tyC (exC G) D cy ad A Q) (h : wpX8_stepForward G i μ Q) (hi_i : 0 ≤ i ∧ i < 4) (hw : wdC G D cy ad A μ s H) (hS : va_S A s.heap H locs) (hl : lv_has ls 2 [(0, .ref (ad 3 i))]) : W p l e R s m args below meth c H locs 0 0 Qf (F0 m 0 ls []) := by
  have hx := F.1
  have hb := F.2.1
  have hown := F.2.2.2.1
  have hts := F.2.2.2.2
  refine lv_aload_n hx hb dX8_stepForward_0 rfl (lv_at hl 0 rfl) ?_
  refine lv_aload_n hx hb dX8_stepForward_1 rfl (lv_at hl 0 rfl) ?_
  refine gC_W_hands F hw hi_i tw1_164 dX8_stepForward_2 ?_
  refine q_iconst hx hb dX8_stepForward_5 ?_
  refine q_iadd hx hb dX8_stepForward_6 ?_
  refine q_sipush hx hb (by decide) dX8_stepForward_7 ?_
  obtain ⟨g1, h⟩ := h
  refine q_icmp_ge (tgt := 22) hx hb g1 (by decide) dX8_stepForward_10 (by decide) (fun c2 => ?_) (fun c2 => ?_)
  · have h := ite_t c2 h
    refine q_iconst hx hb dX8_stepForward_22 ?_
    exact wX8_stepForward_J23 F hA hR ret h hi_i hi_i hw hS (lv_sub hl [0] rfl)
  · have h := ite_f c2 h
    refine lv_aload_n hx hb dX8_stepForward_13 rfl (lv_at hl 0 rfl) ?_
    refine gC_W_hands F hw hi_i tw1_164 dX8_stepForward_14 ?_
    refine q_iconst hx hb dX8_stepForward_17 ?_
    refine q_iadd hx hb dX8_stepForward_18 ?_
    refine lv_goto (tgt := 23) hx hb dX8_stepForward_19 (by decide) ?_
    exact wX8_stepForward_J23 F hA hR ret h hi_i hi_i hw hS (lv_sub hl [0] rfl)
set_option maxRecDepth 100000 in
set_option maxHeartbeats 4000000 in
theorem kX8_stepForward {l : Launch} {D : va_G} {cy : Nat → ClassId} {ad : AD} {A : Nat → Prop} {G : GG} {i : Int} {μ : MM} {Q : Int → MM → Prop} (h : wpX8_stepForward G i μ Q) (hi_i : 0 ≤ i ∧ i < 4) : Met l yX8_stepForward (Cond.code yX8_stepForward cX8_stepForward 2 none :: uw) (rmm 4 93) (wPc [.ref (ad 3 i)] (dmC G) (cfC G) tyC (exC G) D cy ad A μ) (wQ vV Q (dmC G) (cfC G) D cy ad A) 0 0 A :=
  met_of (by decide) (Nat.le_of_ble_eq_true rfl) (fun p e R s m args below meth c ls hr hk hRR F hA hw hS hl => wX8_stepForward F hA (by subst hRR; exact ⟨Nat.le_refl _, Nat.le_refl _⟩) (retV_of F hr hk) h hi_i hw hS hl)
theorem hdX8_stepForward : yX8_stepForward.cls ≠ "java/lang/invoke/MethodHandle" ∧ yX8_stepForward.cls ≠ "java/lang/invoke/VarHandle" ∧ (parseMethodDescriptor yX8_stepForward.desc).map (fun d => d.parameters.length) = some 0 := by decide +kernel
def wpX10_forward_L39 (G : GG) (Q : Int → MM → Prop) : Nat → Int → Int → Int → MM → Prop
  | 0, _, _, _, _ => False
  | n + 1, x2, x3, x4, μ => rg x4 ∧ (rg x2 ∧ (if x2 ≤ x4 then (Q (μ 3 1 x3) μ) else (wpX8_stepForward G x3 μ (fun v4 μ5 => wpX10_forward_L39 G Q n x2 x3 (x4 + 1) μ5))))
set_option maxRecDepth 100000 in
set_option maxHeartbeats 4000000 in
theorem wX10_forward_L39 {G : GG} {Q : Int → MM → Prop} (F : CallFix p m c cX10_forward 5 s args uw RX10) (hA : ∀ q : Nat, s.heap.size ≤ q → A q) (hR : 5 ≤ R.frames ∧ 114 ≤ R.locals) (ret : RetI p l e R s m args below meth c cX10_forward Qf (dmC G) (cfC G) tyC (exC G) D cy ad A Q) : ∀ (n : Nat) (x2 x3 x4 : Int) (μ : MM) (H : Heap) (locs : List Loc) (ls : Array Slot), wpX10_forward_L39 G Q n x2 x3 x4 μ → 0 ≤ x3 ∧ x3 < 4 → wdC G D cy ad A μ s H → va_S A s.heap H locs → lv_has ls 5 [(2, .int (iI x2)), (3, .ref (ad 3 x3)), (4, .int (iI x4))] → W p l e R s m args below meth c H locs 0 0 Qf (F0 m 39 ls []) := by
  have hx := F.1
  have hb := F.2.1
  have hown := F.2.2.2.1
  have hts := F.2.2.2.2
  intro n
  induction n with
  | zero =>
    intro x2 x3 x4 μ H locs ls h hi_x3 hw hS hl
    exact h.elim
  | succ n ih =>
    intro x2 x3 x4 μ H locs ls h hi_x3 hw hS hl
    refine lv_iload hx hb dX10_forward_39 (lv_at hl 2 rfl) ?_
    refine lv_iload_n hx hb dX10_forward_41 rfl (lv_at hl 0 rfl) ?_
    obtain ⟨g1, h⟩ := h
    obtain ⟨g2, h⟩ := h
    refine q_icmp_ge (tgt := 55) hx hb g1 g2 dX10_forward_42 (by decide) (fun c3 => ?_) (fun c3 => ?_)
    · have h := ite_t c3 h
      refine lv_aload_n hx hb dX10_forward_55 rfl (lv_at hl 1 rfl) ?_
      refine gC_W_hands F hw hi_x3 tw1_165 dX10_forward_56 ?_
      exact ret _ _ _ _ _ _ h hw hS dX10_forward_59
    · have h := ite_f c3 h
      refine lv_aload_n hx hb dX10_forward_45 rfl (lv_at hl 1 rfl) ?_
      refine call_V hexC F (kX8_stepForward h hi_x3) 0 tw3_154 tw1_6 tw3_152 tw3_153 tw3_151 hdX8_stepForward ⟨Nat.le_trans (by decide) hR.1, Nat.le_trans (by decide) hR.2⟩ (hw.recv (k := 3) (i := x3) hi_x3 rfl rfl) hA hw hS rfl hl.1 rfl (Nat.le_of_ble_eq_true rfl) dX10_forward_46 (fun v4 μ5 H locs h hw hS => ?_)
      refine q_iinc (k := 2) (lv' := [(4, .int (iI (x4 + 1))), (2, .int (iI x2)), (3, .ref (ad 3 x3))]) hx hb dX10_forward_49 hl rfl (by decide) rfl (fun ls hl => ?_)
      refine lv_goto (tgt := 39) hx hb dX10_forward_52 (by decide) ?_
      exact ih x2 x3 (x4 + 1) _ _ _ _ h hi_x3 hw hS (lv_sub hl [1, 2, 0] rfl)
def wpX10_forward (G : GG) (x1 : Int) (x2 : Int) (μ : MM) (Q : Int → MM → Prop) : Prop := wpX10_towerOf G x1 μ (fun v1 μ2 => if v1 < 0 then (Q (-1) μ2) else (v1 < 4 ∧ (rg x2 ∧ (if x2 < 0 then (Q (-1) μ2) else (if x2 ≤ 1500 then (rg (μ2 3 0 v1) ∧ (if (μ2 3 0 v1) = 0 then (wpX10_found G 1 μ2 (fun v12 μ13 => Q v12 μ13)) else (∃ n11 : Nat, wpX10_forward_L39 G Q n11 x2 v1 0 μ2))) else (Q (-1) μ2))))))
set_option maxRecDepth 100000 in
set_option maxHeartbeats 4000000 in
theorem wX10_forward {G : GG} {Q : Int → MM → Prop} {x1 : Int} {x2 : Int} {μ : MM} {H : Heap} {locs : List Loc} {ls : Array Slot} (F : CallFix p m c cX10_forward 5 s args uw RX10) (hA : ∀ q : Nat, s.heap.size ≤ q → A q) (hR : 5 ≤ R.frames ∧ 114 ≤ R.locals) (ret : RetI p l e R s m args below meth c cX10_forward Qf (dmC G) (cfC G) tyC (exC G) D cy ad A Q) (h : wpX10_forward G x1 x2 μ Q) (hw : wdC G D cy ad A μ s H) (hS : va_S A s.heap H locs) (hl : lv_has ls 5 [(0, .ref (ad 0 0)), (1, .int (iI x1)), (2, .int (iI x2))]) : W p l e R s m args below meth c H locs 0 0 Qf (F0 m 0 ls []) := by
  have hx := F.1
  have hb := F.2.1
  have hown := F.2.2.2.1
  have hts := F.2.2.2.2
  refine lv_aload_n hx hb dX10_forward_0 rfl (lv_at hl 0 rfl) ?_
  refine lv_iload_n hx hb dX10_forward_1 rfl (lv_at hl 1 rfl) ?_
  refine call_V hexC F (kX10_towerOf h) 1 tw3_99 tw1_1 tw3_98 tws1_5 tw3_96 hdX10_towerOf ⟨Nat.le_trans (by decide) hR.1, Nat.le_trans (by decide) hR.2⟩ (hw.recv (k := 0) (i := 0) rfl rfl rfl) hA hw hS rfl hl.1 rfl (Nat.le_of_ble_eq_true rfl) dX10_forward_2 (fun v1 μ2 H locs h hw hS => ?_)
  refine q_astore_n (lv' := [(3, rf ad 3 v1), (0, .ref (ad 0 0)), (1, .int (iI x1)), (2, .int (iI x2))]) hx hb dX10_forward_5 rfl hl (by decide) rfl (fun ls hl => ?_)
  refine q_aload_n hx hb dX10_forward_6 rfl (lv_at hl 0 rfl) ?_
  refine q_ifnull (tgt := 21) hx hb dX10_forward_7 (by decide) (fun c3 => ?_) (fun c3 => ?_)
  · have h := ite_t c3 h
    refine q_iconst hx hb dX10_forward_21 ?_
    exact ret _ _ _ _ _ _ h hw hS dX10_forward_22
  · have h := ite_f c3 h
    obtain ⟨g4, h⟩ := h
    have hi5 : 0 ≤ v1 ∧ v1 < 4 := ⟨by omega, g4⟩
    have hl : lv_has ls 5 [(3, .ref (ad 3 v1)), (0, .ref (ad 0 0)), (1, .int (iI x1)), (2, .int (iI x2))] := by rw [← rf_pos (ad := ad) (k := 3) hi5.1]; exact hl
    refine lv_iload_n hx hb dX10_forward_10 rfl (lv_at hl 3 rfl) ?_
    obtain ⟨g6, h⟩ := h
    refine q_if_lt (tgt := 21) hx hb g6 dX10_forward_11 (by decide) (fun c7 => ?_) (fun c7 => ?_)
    · have h := ite_t c7 h
      refine q_iconst hx hb dX10_forward_21 ?_
      exact ret _ _ _ _ _ _ h hw hS dX10_forward_22
    · have h := ite_f c7 h
      refine lv_iload_n hx hb dX10_forward_14 rfl (lv_at hl 3 rfl) ?_
      refine q_sipush hx hb (by decide) dX10_forward_15 ?_
      refine q_icmp_le (tgt := 23) hx hb g6 (by decide) dX10_forward_18 (by decide) (fun c8 => ?_) (fun c8 => ?_)
      · have h := ite_t c8 h
        refine lv_aload_n hx hb dX10_forward_23 rfl (lv_at hl 0 rfl) ?_
        refine gC_W_there F hw hi5 tw1_163 dX10_forward_24 ?_
        obtain ⟨g9, h⟩ := h
        refine q_if_ne (tgt := 36) hx hb g9 dX10_forward_27 (by decide) (fun c10 => ?_) (fun c10 => ?_)
        · have h := ite_f c10 h
          refine q_iconst hx hb dX10_forward_36 ?_
          refine lv_istore (lv' := [(4, .int (iI 0)), (3, .ref (ad 3 v1)), (0, .ref (ad 0 0)), (1, .int (iI x1)), (2, .int (iI x2))]) hx hb dX10_forward_37 hl (by decide) rfl (fun ls hl => ?_)
          obtain ⟨n11, h⟩ := h
          exact wX10_forward_L39 F hA hR ret n11 x2 v1 0 _ _ _ _ h hi5 hw hS (lv_sub hl [4, 1, 0] rfl)
        · have h := ite_t c10 h
          refine lv_aload_n hx hb dX10_forward_30 rfl (lv_at hl 1 rfl) ?_
          refine q_iconst hx hb dX10_forward_31 ?_
          refine call_V hexC F (kX10_found h) 1 tw2_20 tw1_1 tw2_19 tws1_1 tw2_17 hdX10_found ⟨Nat.le_trans (by decide) hR.1, Nat.le_trans (by decide) hR.2⟩ (hw.recv (k := 0) (i := 0) rfl rfl rfl) hA hw hS rfl hl.1 rfl (Nat.le_of_ble_eq_true rfl) dX10_forward_32 (fun v12 μ13 H locs h hw hS => ?_)
          exact ret _ _ _ _ _ _ h hw hS dX10_forward_35
      · have h := ite_f c8 h
        refine q_iconst hx hb dX10_forward_21 ?_
        exact ret _ _ _ _ _ _ h hw hS dX10_forward_22
set_option maxRecDepth 100000 in
set_option maxHeartbeats 4000000 in
theorem kX10_forward {l : Launch} {D : va_G} {cy : Nat → ClassId} {ad : AD} {A : Nat → Prop} {G : GG} {x1 : Int} {x2 : Int} {μ : MM} {Q : Int → MM → Prop} (h : wpX10_forward G x1 x2 μ Q) : Met l yX10_forward (Cond.code yX10_forward cX10_forward 5 (some .int) :: uw) (rmm 5 114) (wPc [.ref (ad 0 0), .int (iI x1), .int (iI x2)] (dmC G) (cfC G) tyC (exC G) D cy ad A μ) (wQ vI Q (dmC G) (cfC G) D cy ad A) 0 0 A :=
  met_of (by decide) (Nat.le_of_ble_eq_true rfl) (fun p e R s m args below meth c ls hr hk hRR F hA hw hS hl => wX10_forward F hA (by subst hRR; exact ⟨Nat.le_refl _, Nat.le_refl _⟩) (retI_of F hr hk) h hw hS hl)
theorem hdX10_forward : yX10_forward.cls ≠ "java/lang/invoke/MethodHandle" ∧ yX10_forward.cls ≠ "java/lang/invoke/VarHandle" ∧ (parseMethodDescriptor yX10_forward.desc).map (fun d => d.parameters.length) = some 2 := by decide +kernel
def wpX10_gear (G : GG) (x1 : Int) (x2 : Int) (x3 : Int) (μ : MM) (Q : Int → MM → Prop) : Prop := wpX10_trainOf G x1 μ (fun v1 μ2 => if v1 < 0 then (Q (-1) μ2) else (v1 < G 0 0 ∧ (rg x2 ∧ (if x2 < 1 then (Q (-1) μ2) else (if 60 < x2 then (Q (-1) μ2) else (rg x3 ∧ (if x3 < 0 then (Q (-1) μ2) else (if x3 ≤ 100000 then (∀ μ12 : MM, μ12 = ms μ2 2 3 v1 x2 → (∀ μ13 : MM, μ13 = ms μ12 2 4 v1 x3 → (∀ μ14 : MM, μ14 = ms μ13 2 5 v1 x3 → (Q (μ2 2 5 v1) μ14)))) else (Q (-1) μ2)))))))))
set_option maxRecDepth 100000 in
set_option maxHeartbeats 4000000 in
theorem wX10_gear {G : GG} {Q : Int → MM → Prop} {x1 : Int} {x2 : Int} {x3 : Int} {μ : MM} {H : Heap} {locs : List Loc} {ls : Array Slot} (F : CallFix p m c cX10_gear 6 s args uw RX10) (hA : ∀ q : Nat, s.heap.size ≤ q → A q) (hR : 1 ≤ R.frames ∧ 21 ≤ R.locals) (ret : RetI p l e R s m args below meth c cX10_gear Qf (dmC G) (cfC G) tyC (exC G) D cy ad A Q) (h : wpX10_gear G x1 x2 x3 μ Q) (hw : wdC G D cy ad A μ s H) (hS : va_S A s.heap H locs) (hl : lv_has ls 6 [(0, .ref (ad 0 0)), (1, .int (iI x1)), (2, .int (iI x2)), (3, .int (iI x3))]) : W p l e R s m args below meth c H locs 0 0 Qf (F0 m 0 ls []) := by
  have hx := F.1
  have hb := F.2.1
  have hown := F.2.2.2.1
  have hts := F.2.2.2.2
  refine lv_aload_n hx hb dX10_gear_0 rfl (lv_at hl 0 rfl) ?_
  refine lv_iload_n hx hb dX10_gear_1 rfl (lv_at hl 1 rfl) ?_
  refine call_V hexC F (kX10_trainOf h) 1 tw3_18 tw1_1 tw3_17 tws1_4 tw3_15 hdX10_trainOf ⟨Nat.le_trans (by decide) hR.1, Nat.le_trans (by decide) hR.2⟩ (hw.recv (k := 0) (i := 0) rfl rfl rfl) hA hw hS rfl hl.1 rfl (Nat.le_of_ble_eq_true rfl) dX10_gear_2 (fun v1 μ2 H locs h hw hS => ?_)
  refine q_astore (lv' := [(4, rf ad 2 v1), (0, .ref (ad 0 0)), (1, .int (iI x1)), (2, .int (iI x2)), (3, .int (iI x3))]) hx hb dX10_gear_5 hl (by decide) rfl (fun ls hl => ?_)
  refine q_aload hx hb dX10_gear_7 (lv_at hl 0 rfl) ?_
  refine q_ifnull (tgt := 33) hx hb dX10_gear_9 (by decide) (fun c3 => ?_) (fun c3 => ?_)
  · have h := ite_t c3 h
    refine q_iconst hx hb dX10_gear_33 ?_
    exact ret _ _ _ _ _ _ h hw hS dX10_gear_34
  · have h := ite_f c3 h
    obtain ⟨g4, h⟩ := h
    have hi5 : 0 ≤ v1 ∧ v1 < G 0 0 := ⟨by omega, g4⟩
    have hl : lv_has ls 6 [(4, .ref (ad 2 v1)), (0, .ref (ad 0 0)), (1, .int (iI x1)), (2, .int (iI x2)), (3, .int (iI x3))] := by rw [← rf_pos (ad := ad) (k := 2) hi5.1]; exact hl
    refine lv_iload_n hx hb dX10_gear_12 rfl (lv_at hl 3 rfl) ?_
    refine q_iconst hx hb dX10_gear_13 ?_
    obtain ⟨g6, h⟩ := h
    refine q_icmp_lt (tgt := 33) hx hb g6 (by decide) dX10_gear_14 (by decide) (fun c7 => ?_) (fun c7 => ?_)
    · have h := ite_t c7 h
      refine q_iconst hx hb dX10_gear_33 ?_
      exact ret _ _ _ _ _ _ h hw hS dX10_gear_34
    · have h := ite_f c7 h
      refine lv_iload_n hx hb dX10_gear_17 rfl (lv_at hl 3 rfl) ?_
      refine q_bipush hx hb (by decide) dX10_gear_18 ?_
      refine q_icmp_gt (tgt := 33) hx hb g6 (by decide) dX10_gear_20 (by decide) (fun c8 => ?_) (fun c8 => ?_)
      · have h := ite_t c8 h
        refine q_iconst hx hb dX10_gear_33 ?_
        exact ret _ _ _ _ _ _ h hw hS dX10_gear_34
      · have h := ite_f c8 h
        refine lv_iload_n hx hb dX10_gear_23 rfl (lv_at hl 4 rfl) ?_
        obtain ⟨g9, h⟩ := h
        refine q_if_lt (tgt := 33) hx hb g9 dX10_gear_24 (by decide) (fun c10 => ?_) (fun c10 => ?_)
        · have h := ite_t c10 h
          refine q_iconst hx hb dX10_gear_33 ?_
          exact ret _ _ _ _ _ _ h hw hS dX10_gear_34
        · have h := ite_f c10 h
          refine lv_iload_n hx hb dX10_gear_27 rfl (lv_at hl 4 rfl) ?_
          refine q_ldc (n := 100000) hx hb hown (hts _ tw3_19) (by decide) dX10_gear_28 ?_
          refine q_icmp_le (tgt := 35) hx hb g9 (by decide) dX10_gear_30 (by decide) (fun c11 => ?_) (fun c11 => ?_)
          · have h := ite_t c11 h
            refine lv_aload hx hb dX10_gear_35 (lv_at hl 0 rfl) ?_
            refine gC_T_weight F hw hi5 tw2_85 (fun _ h => h) dX10_gear_37 ?_
            refine lv_istore (lv' := [(5, .int (iI (μ2 2 5 v1))), (4, .ref (ad 2 v1)), (0, .ref (ad 0 0)), (1, .int (iI x1)), (2, .int (iI x2)), (3, .int (iI x3))]) hx hb dX10_gear_40 hl (by decide) rfl (fun ls hl => ?_)
            refine lv_aload hx hb dX10_gear_42 (lv_at hl 1 rfl) ?_
            refine lv_iload_n hx hb dX10_gear_44 rfl (lv_at hl 4 rfl) ?_
            obtain ⟨μ12, eμ12⟩ : ∃ z : MM, z = ms μ2 2 3 v1 x2 := ⟨_, rfl⟩
            have h := h μ12 eμ12
            refine pC_T_pace F hw hS hi5 tw2_80 (fun _ h => h) eμ12 dX10_gear_45 (fun H locs hw hS => ?_)
            refine lv_aload hx hb dX10_gear_48 (lv_at hl 1 rfl) ?_
            refine lv_iload_n hx hb dX10_gear_50 rfl (lv_at hl 5 rfl) ?_
            obtain ⟨μ13, eμ13⟩ : ∃ z : MM, z = ms μ12 2 4 v1 x3 := ⟨_, rfl⟩
            have h := h μ13 eμ13
            refine pC_T_fall F hw hS hi5 tw2_83 (fun _ h => h) eμ13 dX10_gear_51 (fun H locs hw hS => ?_)
            refine lv_aload hx hb dX10_gear_54 (lv_at hl 1 rfl) ?_
            refine lv_iload_n hx hb dX10_gear_56 rfl (lv_at hl 5 rfl) ?_
            obtain ⟨μ14, eμ14⟩ : ∃ z : MM, z = ms μ13 2 5 v1 x3 := ⟨_, rfl⟩
            have h := h μ14 eμ14
            refine pC_T_weight F hw hS hi5 tw2_85 (fun _ h => h) eμ14 dX10_gear_57 (fun H locs hw hS => ?_)
            refine lv_iload hx hb dX10_gear_60 (lv_at hl 0 rfl) ?_
            exact ret _ _ _ _ _ _ h hw hS dX10_gear_62
          · have h := ite_f c11 h
            refine q_iconst hx hb dX10_gear_33 ?_
            exact ret _ _ _ _ _ _ h hw hS dX10_gear_34
set_option maxRecDepth 100000 in
set_option maxHeartbeats 4000000 in
theorem kX10_gear {l : Launch} {D : va_G} {cy : Nat → ClassId} {ad : AD} {A : Nat → Prop} {G : GG} {x1 : Int} {x2 : Int} {x3 : Int} {μ : MM} {Q : Int → MM → Prop} (h : wpX10_gear G x1 x2 x3 μ Q) : Met l yX10_gear (Cond.code yX10_gear cX10_gear 6 (some .int) :: uw) (rmm 1 21) (wPc [.ref (ad 0 0), .int (iI x1), .int (iI x2), .int (iI x3)] (dmC G) (cfC G) tyC (exC G) D cy ad A μ) (wQ vI Q (dmC G) (cfC G) D cy ad A) 0 0 A :=
  met_of (by decide) (Nat.le_of_ble_eq_true rfl) (fun p e R s m args below meth c ls hr hk hRR F hA hw hS hl => wX10_gear F hA (by subst hRR; exact ⟨Nat.le_refl _, Nat.le_refl _⟩) (retI_of F hr hk) h hw hS hl)
theorem hdX10_gear : yX10_gear.cls ≠ "java/lang/invoke/MethodHandle" ∧ yX10_gear.cls ≠ "java/lang/invoke/VarHandle" ∧ (parseMethodDescriptor yX10_gear.desc).map (fun d => d.parameters.length) = some 3 := by decide +kernel
def wpX10_go (G : GG) (x1 : Int) (x2 : Int) (μ : MM) (Q : Int → MM → Prop) : Prop := wpX10_towerOf G x1 μ (fun v1 μ2 => if v1 < 0 then (Q (-1) μ2) else (v1 < 4 ∧ (rg (μ2 3 0 v1) ∧ (if (μ2 3 0 v1) = 0 then (wpX10_found G 1 μ2 (fun v14 μ15 => Q v14 μ15)) else (rg (μ2 3 5 v1) ∧ (if (μ2 3 5 v1) = 0 then ((x2 = 0 ∨ x2 = 1) ∧ (∀ μ11 : MM, μ11 = ms μ2 3 5 v1 x2 → (Q 0 μ11))) else ((x2 = 0 ∨ x2 = 1) ∧ (∀ μ13 : MM, μ13 = ms μ2 3 5 v1 x2 → (Q 1 μ13)))))))))
set_option maxRecDepth 100000 in
set_option maxHeartbeats 4000000 in
theorem wX10_go {G : GG} {Q : Int → MM → Prop} {x1 : Int} {x2 : Int} {μ : MM} {H : Heap} {locs : List Loc} {ls : Array Slot} (F : CallFix p m c cX10_go 5 s args uw RX10) (hA : ∀ q : Nat, s.heap.size ≤ q → A q) (hR : 1 ≤ R.frames ∧ 21 ≤ R.locals) (ret : RetI p l e R s m args below meth c cX10_go Qf (dmC G) (cfC G) tyC (exC G) D cy ad A Q) (h : wpX10_go G x1 x2 μ Q) (hw : wdC G D cy ad A μ s H) (hS : va_S A s.heap H locs) (hl : lv_has ls 5 [(0, .ref (ad 0 0)), (1, .int (iI x1)), (2, .int (iI x2))]) : W p l e R s m args below meth c H locs 0 0 Qf (F0 m 0 ls []) := by
  have hx := F.1
  have hb := F.2.1
  have hown := F.2.2.2.1
  have hts := F.2.2.2.2
  refine lv_aload_n hx hb dX10_go_0 rfl (lv_at hl 0 rfl) ?_
  refine lv_iload_n hx hb dX10_go_1 rfl (lv_at hl 1 rfl) ?_
  refine call_V hexC F (kX10_towerOf h) 1 tw3_99 tw1_1 tw3_98 tws1_5 tw3_96 hdX10_towerOf ⟨Nat.le_trans (by decide) hR.1, Nat.le_trans (by decide) hR.2⟩ (hw.recv (k := 0) (i := 0) rfl rfl rfl) hA hw hS rfl hl.1 rfl (Nat.le_of_ble_eq_true rfl) dX10_go_2 (fun v1 μ2 H locs h hw hS => ?_)
  refine q_astore_n (lv' := [(3, rf ad 3 v1), (0, .ref (ad 0 0)), (1, .int (iI x1)), (2, .int (iI x2))]) hx hb dX10_go_5 rfl hl (by decide) rfl (fun ls hl => ?_)
  refine q_aload_n hx hb dX10_go_6 rfl (lv_at hl 0 rfl) ?_
  refine q_ifnonnull (tgt := 12) hx hb dX10_go_7 (by decide) (fun c3 => ?_) (fun c3 => ?_)
  · have h := ite_t c3 h
    refine q_iconst hx hb dX10_go_10 ?_
    exact ret _ _ _ _ _ _ h hw hS dX10_go_11
  · have h := ite_f c3 h
    obtain ⟨g4, h⟩ := h
    have hi5 : 0 ≤ v1 ∧ v1 < 4 := ⟨by omega, g4⟩
    have hl : lv_has ls 5 [(3, .ref (ad 3 v1)), (0, .ref (ad 0 0)), (1, .int (iI x1)), (2, .int (iI x2))] := by rw [← rf_pos (ad := ad) (k := 3) hi5.1]; exact hl
    refine lv_aload_n hx hb dX10_go_12 rfl (lv_at hl 0 rfl) ?_
    refine gC_W_there F hw hi5 tw1_163 dX10_go_13 ?_
    obtain ⟨g6, h⟩ := h
    refine q_if_ne (tgt := 25) hx hb g6 dX10_go_16 (by decide) (fun c7 => ?_) (fun c7 => ?_)
    · have h := ite_f c7 h
      refine lv_aload_n hx hb dX10_go_25 rfl (lv_at hl 0 rfl) ?_
      refine gC_W_goes F hw hi5 tw1_173 dX10_go_26 ?_
      obtain ⟨g8, h⟩ := h
      refine q_if_eq (tgt := 36) hx hb g8 dX10_go_29 (by decide) (fun c9 => ?_) (fun c9 => ?_)
      · have h := ite_t c9 h
        refine q_iconst hx hb dX10_go_36 ?_
        refine lv_istore (lv' := [(4, .int (iI 0)), (3, .ref (ad 3 v1)), (0, .ref (ad 0 0)), (1, .int (iI x1)), (2, .int (iI x2))]) hx hb dX10_go_37 hl (by decide) rfl (fun ls hl => ?_)
        refine lv_aload_n hx hb dX10_go_39 rfl (lv_at hl 1 rfl) ?_
        refine lv_iload_n hx hb dX10_go_40 rfl (lv_at hl 4 rfl) ?_
        obtain ⟨g10, h⟩ := h
        obtain ⟨μ11, eμ11⟩ : ∃ z : MM, z = ms μ2 3 5 v1 x2 := ⟨_, rfl⟩
        have h := h μ11 eμ11
        refine pC_W_goes F hw hS hi5 tw1_173 g10 eμ11 dX10_go_41 (fun H locs hw hS => ?_)
        refine lv_iload hx hb dX10_go_44 (lv_at hl 0 rfl) ?_
        exact ret _ _ _ _ _ _ h hw hS dX10_go_46
      · have h := ite_f c9 h
        refine q_iconst hx hb dX10_go_32 ?_
        refine lv_goto (tgt := 37) hx hb dX10_go_33 (by decide) ?_
        refine lv_istore (lv' := [(4, .int (iI 1)), (3, .ref (ad 3 v1)), (0, .ref (ad 0 0)), (1, .int (iI x1)), (2, .int (iI x2))]) hx hb dX10_go_37 hl (by decide) rfl (fun ls hl => ?_)
        refine lv_aload_n hx hb dX10_go_39 rfl (lv_at hl 1 rfl) ?_
        refine lv_iload_n hx hb dX10_go_40 rfl (lv_at hl 4 rfl) ?_
        obtain ⟨g12, h⟩ := h
        obtain ⟨μ13, eμ13⟩ : ∃ z : MM, z = ms μ2 3 5 v1 x2 := ⟨_, rfl⟩
        have h := h μ13 eμ13
        refine pC_W_goes F hw hS hi5 tw1_173 g12 eμ13 dX10_go_41 (fun H locs hw hS => ?_)
        refine lv_iload hx hb dX10_go_44 (lv_at hl 0 rfl) ?_
        exact ret _ _ _ _ _ _ h hw hS dX10_go_46
    · have h := ite_t c7 h
      refine lv_aload_n hx hb dX10_go_19 rfl (lv_at hl 1 rfl) ?_
      refine q_iconst hx hb dX10_go_20 ?_
      refine call_V hexC F (kX10_found h) 1 tw2_20 tw1_1 tw2_19 tws1_1 tw2_17 hdX10_found ⟨Nat.le_trans (by decide) hR.1, Nat.le_trans (by decide) hR.2⟩ (hw.recv (k := 0) (i := 0) rfl rfl rfl) hA hw hS rfl hl.1 rfl (Nat.le_of_ble_eq_true rfl) dX10_go_21 (fun v14 μ15 H locs h hw hS => ?_)
      exact ret _ _ _ _ _ _ h hw hS dX10_go_24
set_option maxRecDepth 100000 in
set_option maxHeartbeats 4000000 in
theorem kX10_go {l : Launch} {D : va_G} {cy : Nat → ClassId} {ad : AD} {A : Nat → Prop} {G : GG} {x1 : Int} {x2 : Int} {μ : MM} {Q : Int → MM → Prop} (h : wpX10_go G x1 x2 μ Q) : Met l yX10_go (Cond.code yX10_go cX10_go 5 (some .int) :: uw) (rmm 1 21) (wPc [.ref (ad 0 0), .int (iI x1), .int (iI x2)] (dmC G) (cfC G) tyC (exC G) D cy ad A μ) (wQ vI Q (dmC G) (cfC G) D cy ad A) 0 0 A :=
  met_of (by decide) (Nat.le_of_ble_eq_true rfl) (fun p e R s m args below meth c ls hr hk hRR F hA hw hS hl => wX10_go F hA (by subst hRR; exact ⟨Nat.le_refl _, Nat.le_refl _⟩) (retI_of F hr hk) h hw hS hl)
theorem hdX10_go : yX10_go.cls ≠ "java/lang/invoke/MethodHandle" ∧ yX10_go.cls ≠ "java/lang/invoke/VarHandle" ∧ (parseMethodDescriptor yX10_go.desc).map (fun d => d.parameters.length) = some 2 := by decide +kernel
def wpX10_hands (G : GG) (x1 : Int) (x2 : Int) (μ : MM) (Q : Int → MM → Prop) : Prop := wpX10_towerOf G x1 μ (fun v1 μ2 => if v1 < 0 then (Q (-1) μ2) else (v1 < 4 ∧ (rg x2 ∧ (if x2 < 0 then (Q (-1) μ2) else (if x2 < 1440 then (rg (μ2 3 0 v1) ∧ (if (μ2 3 0 v1) = 0 then (wpX10_found G 1 μ2 (fun v12 μ13 => Q v12 μ13)) else (∀ μ11 : MM, μ11 = ms μ2 3 1 v1 x2 → (Q (μ2 3 1 v1) μ11)))) else (Q (-1) μ2))))))
set_option maxRecDepth 100000 in
set_option maxHeartbeats 4000000 in
theorem wX10_hands {G : GG} {Q : Int → MM → Prop} {x1 : Int} {x2 : Int} {μ : MM} {H : Heap} {locs : List Loc} {ls : Array Slot} (F : CallFix p m c cX10_hands 5 s args uw RX10) (hA : ∀ q : Nat, s.heap.size ≤ q → A q) (hR : 1 ≤ R.frames ∧ 21 ≤ R.locals) (ret : RetI p l e R s m args below meth c cX10_hands Qf (dmC G) (cfC G) tyC (exC G) D cy ad A Q) (h : wpX10_hands G x1 x2 μ Q) (hw : wdC G D cy ad A μ s H) (hS : va_S A s.heap H locs) (hl : lv_has ls 5 [(0, .ref (ad 0 0)), (1, .int (iI x1)), (2, .int (iI x2))]) : W p l e R s m args below meth c H locs 0 0 Qf (F0 m 0 ls []) := by
  have hx := F.1
  have hb := F.2.1
  have hown := F.2.2.2.1
  have hts := F.2.2.2.2
  refine lv_aload_n hx hb dX10_hands_0 rfl (lv_at hl 0 rfl) ?_
  refine lv_iload_n hx hb dX10_hands_1 rfl (lv_at hl 1 rfl) ?_
  refine call_V hexC F (kX10_towerOf h) 1 tw3_99 tw1_1 tw3_98 tws1_5 tw3_96 hdX10_towerOf ⟨Nat.le_trans (by decide) hR.1, Nat.le_trans (by decide) hR.2⟩ (hw.recv (k := 0) (i := 0) rfl rfl rfl) hA hw hS rfl hl.1 rfl (Nat.le_of_ble_eq_true rfl) dX10_hands_2 (fun v1 μ2 H locs h hw hS => ?_)
  refine q_astore_n (lv' := [(3, rf ad 3 v1), (0, .ref (ad 0 0)), (1, .int (iI x1)), (2, .int (iI x2))]) hx hb dX10_hands_5 rfl hl (by decide) rfl (fun ls hl => ?_)
  refine q_aload_n hx hb dX10_hands_6 rfl (lv_at hl 0 rfl) ?_
  refine q_ifnull (tgt := 21) hx hb dX10_hands_7 (by decide) (fun c3 => ?_) (fun c3 => ?_)
  · have h := ite_t c3 h
    refine q_iconst hx hb dX10_hands_21 ?_
    exact ret _ _ _ _ _ _ h hw hS dX10_hands_22
  · have h := ite_f c3 h
    obtain ⟨g4, h⟩ := h
    have hi5 : 0 ≤ v1 ∧ v1 < 4 := ⟨by omega, g4⟩
    have hl : lv_has ls 5 [(3, .ref (ad 3 v1)), (0, .ref (ad 0 0)), (1, .int (iI x1)), (2, .int (iI x2))] := by rw [← rf_pos (ad := ad) (k := 3) hi5.1]; exact hl
    refine lv_iload_n hx hb dX10_hands_10 rfl (lv_at hl 3 rfl) ?_
    obtain ⟨g6, h⟩ := h
    refine q_if_lt (tgt := 21) hx hb g6 dX10_hands_11 (by decide) (fun c7 => ?_) (fun c7 => ?_)
    · have h := ite_t c7 h
      refine q_iconst hx hb dX10_hands_21 ?_
      exact ret _ _ _ _ _ _ h hw hS dX10_hands_22
    · have h := ite_f c7 h
      refine lv_iload_n hx hb dX10_hands_14 rfl (lv_at hl 3 rfl) ?_
      refine q_sipush hx hb (by decide) dX10_hands_15 ?_
      refine q_icmp_lt (tgt := 23) hx hb g6 (by decide) dX10_hands_18 (by decide) (fun c8 => ?_) (fun c8 => ?_)
      · have h := ite_t c8 h
        refine lv_aload_n hx hb dX10_hands_23 rfl (lv_at hl 0 rfl) ?_
        refine gC_W_there F hw hi5 tw1_163 dX10_hands_24 ?_
        obtain ⟨g9, h⟩ := h
        refine q_if_ne (tgt := 36) hx hb g9 dX10_hands_27 (by decide) (fun c10 => ?_) (fun c10 => ?_)
        · have h := ite_f c10 h
          refine lv_aload_n hx hb dX10_hands_36 rfl (lv_at hl 0 rfl) ?_
          refine gC_W_hands F hw hi5 tw1_165 dX10_hands_37 ?_
          refine lv_istore (lv' := [(4, .int (iI (μ2 3 1 v1))), (3, .ref (ad 3 v1)), (0, .ref (ad 0 0)), (1, .int (iI x1)), (2, .int (iI x2))]) hx hb dX10_hands_40 hl (by decide) rfl (fun ls hl => ?_)
          refine lv_aload_n hx hb dX10_hands_42 rfl (lv_at hl 1 rfl) ?_
          refine lv_iload_n hx hb dX10_hands_43 rfl (lv_at hl 4 rfl) ?_
          obtain ⟨μ11, eμ11⟩ : ∃ z : MM, z = ms μ2 3 1 v1 x2 := ⟨_, rfl⟩
          have h := h μ11 eμ11
          refine pC_W_hands F hw hS hi5 tw1_165 eμ11 dX10_hands_44 (fun H locs hw hS => ?_)
          refine lv_iload hx hb dX10_hands_47 (lv_at hl 0 rfl) ?_
          exact ret _ _ _ _ _ _ h hw hS dX10_hands_49
        · have h := ite_t c10 h
          refine lv_aload_n hx hb dX10_hands_30 rfl (lv_at hl 1 rfl) ?_
          refine q_iconst hx hb dX10_hands_31 ?_
          refine call_V hexC F (kX10_found h) 1 tw2_20 tw1_1 tw2_19 tws1_1 tw2_17 hdX10_found ⟨Nat.le_trans (by decide) hR.1, Nat.le_trans (by decide) hR.2⟩ (hw.recv (k := 0) (i := 0) rfl rfl rfl) hA hw hS rfl hl.1 rfl (Nat.le_of_ble_eq_true rfl) dX10_hands_32 (fun v12 μ13 H locs h hw hS => ?_)
          exact ret _ _ _ _ _ _ h hw hS dX10_hands_35
      · have h := ite_f c8 h
        refine q_iconst hx hb dX10_hands_21 ?_
        exact ret _ _ _ _ _ _ h hw hS dX10_hands_22
set_option maxRecDepth 100000 in
set_option maxHeartbeats 4000000 in
theorem kX10_hands {l : Launch} {D : va_G} {cy : Nat → ClassId} {ad : AD} {A : Nat → Prop} {G : GG} {x1 : Int} {x2 : Int} {μ : MM} {Q : Int → MM → Prop} (h : wpX10_hands G x1 x2 μ Q) : Met l yX10_hands (Cond.code yX10_hands cX10_hands 5 (some .int) :: uw) (rmm 1 21) (wPc [.ref (ad 0 0), .int (iI x1), .int (iI x2)] (dmC G) (cfC G) tyC (exC G) D cy ad A μ) (wQ vI Q (dmC G) (cfC G) D cy ad A) 0 0 A :=
  met_of (by decide) (Nat.le_of_ble_eq_true rfl) (fun p e R s m args below meth c ls hr hk hRR F hA hw hS hl => wX10_hands F hA (by subst hRR; exact ⟨Nat.le_refl _, Nat.le_refl _⟩) (retI_of F hr hk) h hw hS hl)
theorem hdX10_hands : yX10_hands.cls ≠ "java/lang/invoke/MethodHandle" ∧ yX10_hands.cls ≠ "java/lang/invoke/VarHandle" ∧ (parseMethodDescriptor yX10_hands.desc).map (fun d => d.parameters.length) = some 2 := by decide +kernel
end
